theorem hd_X7_in : yX7_in.cls ≠ "java/lang/invoke/MethodHandle" ∧ yX7_in.cls ≠ "java/lang/invoke/VarHandle" ∧ (parseMethodDescriptor yX7_in.desc).map (fun d => d.parameters.length) = some 3 := by decide +kernel
def k_X7_in (x0 : Int32) (x1 : Int32) (x2 : Int32) : Bool :=
  if x0 < x1 then
    false
  else
    if x2 < x0 then
      false
    else
      true
set_option maxHeartbeats 4000000 in
set_option maxRecDepth 100000 in
theorem c_X7_in (l : Launch) (D : va_G) (cA : ClassId)  (x0 : Int32) (x1 : Int32) (x2 : Int32) : gq_C l yX7_in wsX7_in ({ frames := 0, cells := 0, slots := 0, locals := 0 } : Room) D cA [.int x0, .int x1, .int x2] (([] : va_W)) (some (.int (gq_b (k_X7_in x0 x1 x2)))) (([] : va_W)) := by
  refine gq_openf (own := RX7) (lv := [(0, .int x0), (1, .int x1), (2, .int x2)]) (fun r : Bool => (some (.int (gq_b r)), ([] : va_W))) (k_X7_in x0 x1 x2) (by decide) rfl rfl (Nat.le_of_ble_eq_true rfl) rfl rfl rfl (fun p e s m args below meth c A X => ?_)
  unfold k_X7_in
  refine gq_iload_n X dX7_in_0 0 rfl ?_
  refine gq_iload_n X dX7_in_1 1 rfl ?_
  refine gq_ficmp_lt (tgt := 14) X dX7_in_2 (by decide) (fun h2 => ?_) (fun h2 => ?_)
  · refine gq_iconst (v := 0) X dX7_in_14 gq_i0 ?_
    exact gq_zretf (b := false) X dX7_in_15 rfl rfl rfl
  · refine gq_iload_n X dX7_in_5 0 rfl ?_
    refine gq_iload_n X dX7_in_6 2 rfl ?_
    refine gq_ficmp_gt (tgt := 14) X dX7_in_7 (by decide) (fun h7 => ?_) (fun h7 => ?_)
    · refine gq_iconst (v := 0) X dX7_in_14 gq_i0 ?_
      exact gq_zretf (b := false) X dX7_in_15 rfl rfl rfl
    · refine gq_iconst (v := 1) X dX7_in_10 gq_i1 ?_
      refine gq_goto (tgt := 15) X dX7_in_11 (by decide) ?_
      exact gq_zretf (b := true) X dX7_in_15 rfl rfl rfl
/-! the reference: facts of numbers that its walks want -/
theorem mv_ix {x : Int32} {n : Nat} (h : vp_in x n) : gq_ix x < n := Nat.not_le.mp fun q => h (Or.inr q)
theorem mv_le {x : Int32} {n k : Nat} (h : vp_in x n) (hk : n ≤ k) : vp_in x k := by rw [vp_in_iff] at h ⊢; omega
theorem mv_rem16 {x : Int32} (h : vp_in x 60) : vp_in (gq_rem x 16) 16 := by
  obtain ⟨j, hj, rfl⟩ := vp_in_of h (by decide)
  have h1 : ∀ j, j < 60 → gq_rem (nI j) 16 = nI (j % 16) := by decide +kernel
  rw [h1 j hj]
  exact vp_in_nI (Nat.mod_lt _ (by decide)) (by decide)
theorem mv_rem8 {x : Int32} (h : vp_in x 60) : vp_in (gq_rem x 8) 8 := by
  obtain ⟨j, hj, rfl⟩ := vp_in_of h (by decide)
  have h1 : ∀ j, j < 60 → gq_rem (nI j) 8 = nI (j % 8) := by decide +kernel
  rw [h1 j hj]
  exact vp_in_nI (Nat.mod_lt _ (by decide)) (by decide)
theorem mv_xorN : ∀ a, a < 16 → ∀ b, b < 16 → nI a ^^^ nI b = nI (a ^^^ b) ∧ a ^^^ b < 16 := by decide +kernel
theorem mv_xor {x y : Int32} (h : vp_in x 16) (h2 : vp_in y 16) : vp_in (x ^^^ y) 16 := by
  obtain ⟨a, ha, rfl⟩ := vp_in_of h (by decide)
  obtain ⟨b, hb, rfl⟩ := vp_in_of h2 (by decide)
  obtain ⟨e, hl⟩ := mv_xorN a ha b hb
  rw [e]
  exact vp_in_nI hl (by decide)
theorem mv_ne {x : Int32} {n : Nat} {k : Int32} (hk : k = nI n) (h : vp_in x (n + 1)) (hn : n < 2147483648) (h2 : ¬ x = k) : vp_in x n := by
  rw [vp_in_iff] at h ⊢
  have h3 : ¬ x.toInt = (n : Int) := fun q => h2 (Int32.toInt_inj.mp (by rw [hk, nI_toInt hn]; exact q))
  omega
theorem mv_pred {x : Int32} {n : Nat} (h : vp_in x (n + 1)) (hn : n < 2147483647) (h2 : ¬ x = 0) : vp_in (x - 1) n := by
  obtain ⟨j, hj, rfl⟩ := vp_in_of h (by omega)
  cases j with
  | zero => exact absurd rfl h2
  | succ j => rw [nI_pred]; exact vp_in_nI (by omega) (by omega)
theorem mv_and15 (x : Int32) : vp_in (x &&& 15) 16 := pk_andIn x 4 (by decide) (by decide)
theorem mv_4 {x : Int32} (h : vp_in x 8) : vp_in ((4 * x) + 0) 32 ∧ vp_in ((4 * x) + 1) 32 ∧ vp_in ((4 * x) + 2) 32 ∧ vp_in ((4 * x) + 3) 32 := by
  obtain ⟨j, hj, rfl⟩ := vp_in_of h (by decide)
  have h1 : ∀ j, j < 8 → vp_in ((4 * nI j) + 0) 32 ∧ vp_in ((4 * nI j) + 1) 32 ∧ vp_in ((4 * nI j) + 2) 32 ∧ vp_in ((4 * nI j) + 3) 32 := by unfold vp_in; decide +kernel
  exact h1 j hj
theorem mv_lt {x : Int32} {n : Nat} {k : Int32} (hk : k = nI n) (h0 : ¬ x < 0) (h : ¬ k ≤ x) (hn : n < 2147483648) : vp_in x n := gq_in h0 (by rw [← hk]; exact h) hn
theorem mv_in {x lo hi : Int32} {n : Nat} (h : k_X7_in x lo hi = true) (hlo : lo = 0) (hhi : hi.toInt < n) : vp_in x n := by
  unfold k_X7_in at h
  by_cases h1 : x < lo
  · rw [if_pos h1] at h; cases h
  · by_cases h2 : hi < x
    · rw [if_neg h1, if_pos h2] at h; cases h
    · rw [vp_in_iff]
      subst hlo
      rw [Int32.lt_iff_toInt_lt] at h1 h2
      have h0 : (0 : Int32).toInt = 0 := by decide
      omega
theorem mv_inL {x : Int32} {a : Int32} (h : k_X7_in x 0 (a - 1) = true) {n : Nat} (ha : vp_in a (n + 1)) (hn : n < 2147483647) : vp_in x n := by
  have ha0 := ha
  obtain ⟨j, hj, rfl⟩ := vp_in_of ha (by omega)
  refine mv_in h rfl ?_
  cases j with
  | zero => rw [show nI 0 - 1 = (-1 : Int32) by decide]; rw [show (-1 : Int32).toInt = -1 by decide]; omega
  | succ j => rw [nI_pred, nI_toInt (by omega)]; omega
def m_isB (k : Int32) : Bool := if k = 5 then true else if k = 6 then true else false
theorem hd_X7_more : yX7_more.cls ≠ "java/lang/invoke/MethodHandle" ∧ yX7_more.cls ≠ "java/lang/invoke/VarHandle" ∧ (parseMethodDescriptor yX7_more.desc).map (fun d => d.parameters.length) = some 2 := by decide +kernel
def k_X7_more (x0 : Int32) (y1 : Bool) : Int32 :=
  if y1 = true then
    if 3 ≤ x0 then
      3
    else
      x0 + 1
  else
    if x0 ≤ 0 then
      0
    else
      x0 - 1
set_option maxHeartbeats 4000000 in
set_option maxRecDepth 100000 in
theorem c_X7_more (l : Launch) (D : va_G) (cA : ClassId)  (x0 : Int32) (y1 : Bool) : gq_C l yX7_more wsX7_more ({ frames := 0, cells := 0, slots := 0, locals := 0 } : Room) D cA [.int x0, .int (gq_b y1)] (([] : va_W)) (some (.int (k_X7_more x0 y1))) (([] : va_W)) := by
  refine gq_openf (own := RX7) (lv := [(0, .int x0), (1, .int (gq_b y1))]) (fun r : Int32 => (some (.int r), ([] : va_W))) (k_X7_more x0 y1) (by decide) rfl rfl (Nat.le_of_ble_eq_true rfl) rfl rfl rfl (fun p e s m args below meth c A X => ?_)
  unfold k_X7_more
  refine gq_iload_n X dX7_more_0 1 rfl ?_
  refine gq_fbif_eq (tgt := 19) X dX7_more_1 (by decide) (fun h1 => ?_) (fun h1 => ?_)
  · refine gq_iload_n X dX7_more_4 0 rfl ?_
    refine gq_iconst (v := 3) X dX7_more_5 gq_i3 ?_
    refine gq_ficmp_ge (tgt := 15) X dX7_more_6 (by decide) (fun h6 => ?_) (fun h6 => ?_)
    · refine gq_iconst (v := 3) X dX7_more_15 gq_i3 ?_
      refine gq_goto (tgt := 30) X dX7_more_16 (by decide) ?_
      exact gq_iretf X dX7_more_30 rfl rfl
    · refine gq_iload_n X dX7_more_9 0 rfl ?_
      refine gq_iconst (v := 1) X dX7_more_10 gq_i1 ?_
      refine gq_iadd X dX7_more_11 ?_
      refine gq_goto (tgt := 30) X dX7_more_12 (by decide) ?_
      exact gq_iretf X dX7_more_30 rfl rfl
  · refine gq_iload_n X dX7_more_19 0 rfl ?_
    refine gq_fif_le (tgt := 29) X dX7_more_20 (by decide) (fun h20 => ?_) (fun h20 => ?_)
    · refine gq_iconst (v := 0) X dX7_more_29 gq_i0 ?_
      exact gq_iretf X dX7_more_30 rfl rfl
    · refine gq_iload_n X dX7_more_23 0 rfl ?_
      refine gq_iconst (v := 1) X dX7_more_24 gq_i1 ?_
      refine gq_isub X dX7_more_25 ?_
      refine gq_goto (tgt := 30) X dX7_more_26 (by decide) ?_
      exact gq_iretf X dX7_more_30 rfl rfl
theorem iX7_first_X7 : ∀ w ∈ u_ws RX7 TX7 34, w ∈ wsX7_first := by decide +kernel
theorem fX7_first_X7_11 : Cond.fieldLink RX7 35 (TX7 11).1 (TX7 11).2.1 (TX7 11).2.2.1 ∈ wsX7_first := by decide +kernel
theorem fX7_first_X7_12 : Cond.fieldLink RX7 38 (TX7 12).1 (TX7 12).2.1 (TX7 12).2.2.1 ∈ wsX7_first := by decide +kernel
theorem fX7_first_X7_13 : Cond.fieldLink RX7 41 (TX7 13).1 (TX7 13).2.1 (TX7 13).2.2.1 ∈ wsX7_first := by decide +kernel
theorem fX7_first_X7_14 : Cond.fieldLink RX7 89 (TX7 14).1 (TX7 14).2.1 (TX7 14).2.2.1 ∈ wsX7_first := by decide +kernel
theorem fX7_first_X7_15 : Cond.fieldLink RX7 44 (TX7 15).1 (TX7 15).2.1 (TX7 15).2.2.1 ∈ wsX7_first := by decide +kernel
theorem fX7_first_X7_16 : Cond.fieldLink RX7 47 (TX7 16).1 (TX7 16).2.1 (TX7 16).2.2.1 ∈ wsX7_first := by decide +kernel
theorem fX7_first_X7_17 : Cond.fieldLink RX7 50 (TX7 17).1 (TX7 17).2.1 (TX7 17).2.2.1 ∈ wsX7_first := by decide +kernel
theorem hv_X7_first : yX7_first.cls = RX7 ∧ yX7_first.cls ≠ "java/lang/invoke/MethodHandle" ∧ yX7_first.cls ≠ "java/lang/invoke/VarHandle" ∧ (parseMethodDescriptor yX7_first.desc).map (fun d => d.parameters.length) = some 0 := by decide +kernel
def kb_X7_first_2 (S : gs_M) (i : Nat) (t3 : gs_M) : gs_M :=
  gq_lt (ms_plain t3 (upd (mg_plain t3) (gq_ix (nI i)) 1)) (fun s4 =>
  gq_lt (ms_mixed s4 (upd (mg_mixed s4) (gq_ix (nI i)) 1)) (fun s5 =>
  gq_lt (ms_choice s5 (upd (mg_choice s5) (gq_ix (nI i)) 1)) (fun s6 =>
  s6)))
def kb_X7_first_37 (S : gs_M) (i : Nat) (t9 : gs_M) : gs_M :=
  gq_lt (ms_targetAt t9 (upd (mg_targetAt t9) (gq_ix (nI i)) (-1))) (fun s10 =>
  gq_lt (ms_targetKind s10 (upd (mg_targetKind s10) (gq_ix (nI i)) 5)) (fun s11 =>
  gq_lt (ms_target s11 (upd (mg_target s11) (gq_ix (nI i)) 0)) (fun s12 =>
  s12)))
def k_X7_first (S : gs_M) : gs_M :=
  gq_lt (gq_it (kb_X7_first_2 S) 0 S 16) (fun s1 =>
  gq_lt (gq_it (kb_X7_first_37 S) 0 s1 8) (fun s7 =>
  gq_lt (ms_history s7 0) (fun s13 =>
  s13)))
set_option maxHeartbeats 4000000 in
set_option maxRecDepth 100000 in
theorem c_X7_first (l : Launch) (D : va_G) (cA : ClassId) (a : Nat → Nat) (S : gs_M)  : gq_C l yX7_first wsX7_first ({ frames := 0, cells := 0, slots := 0, locals := 0 } : Room) D cA [.ref (a 0)] (gw_M cA a S) (none) (gw_M cA a (k_X7_first S)) := by
  refine gq_openf (own := RX7) (lv := [(0, .ref (a 0))]) (fun r : gs_M => (none, gw_M cA a r)) (k_X7_first S) (by decide) rfl rfl (Nat.le_of_ble_eq_true rfl) rfl rfl rfl (fun p e s m args below meth c A X => ?_)
  unfold k_X7_first
  refine gq_iconst (v := 0) X dX7_first_0 gq_i0 ?_
  refine gq_istore_n (lv' := [(1, .int 0), (0, .ref (a 0))]) X dX7_first_1 (by decide) rfl ?_
  refine gq_letr (fun s1 es1 => ?_)
  refine gq_eqw (ws' := gw_M cA a (gq_it (kb_X7_first_2 S) 0 S 0)) (by rw [gq_it_0]) ?_
  refine gq_loop (N := 16) (i0 := 0) (fun i => gw_M cA a (gq_it (kb_X7_first_2 S) 0 S i)) (fun i => [(1, .int (nI i)), (0, .ref (a 0))]) (Nat.zero_le _) (fun i hi h0 ih => ?_)
  obtain ⟨t3, et3⟩ : ∃ y, y = gq_it (kb_X7_first_2 S) 0 S i := ⟨_, rfl⟩
  refine gq_eqw (ws' := gw_M cA a t3) (by rw [et3]) ?_
  refine gq_iload_n X dX7_first_2 0 rfl ?_
  refine gq_bipush (v := 16) X dX7_first_3 (by decide) ?_
  rcases Nat.lt_or_ge i 16 with hlt | hge
  · refine gq_icmp_ge (tgt := 35) X dX7_first_5 (by decide) (fun h => absurd h (nI_ge hlt (by decide))) (fun _ => ?_)
    refine gq_aload_n X dX7_first_8 1 rfl ?_
    refine gq_get (C := RX7) (T := TX7) (N := 34) X iX7_first_X7 0 gl_M_c0 rfl 11 (by decide) fX7_first_X7_11 rfl dX7_first_9 ?_
    refine gq_iload_n X dX7_first_12 0 rfl ?_
    refine gq_iconst (v := 1) X dX7_first_13 gq_i1 ?_
    obtain ⟨s4, es4⟩ : ∃ y, y = ms_plain t3 (upd (mg_plain t3) (gq_ix (nI i)) 1) := ⟨_, rfl⟩
    refine gq_ast (ws' := gw_M cA a s4) X 8 gl_M_c8 (vp_in_nI hlt (by decide)) (by rw [es4]; exact gl_M_a8) dX7_first_14 ?_
    refine gq_aload_n X dX7_first_15 1 rfl ?_
    refine gq_get (C := RX7) (T := TX7) (N := 34) X iX7_first_X7 0 gl_M_c0 rfl 12 (by decide) fX7_first_X7_12 rfl dX7_first_16 ?_
    refine gq_iload_n X dX7_first_19 0 rfl ?_
    refine gq_iconst (v := 1) X dX7_first_20 gq_i1 ?_
    obtain ⟨s5, es5⟩ : ∃ y, y = ms_mixed s4 (upd (mg_mixed s4) (gq_ix (nI i)) 1) := ⟨_, rfl⟩
    refine gq_ast (ws' := gw_M cA a s5) X 9 gl_M_c9 (vp_in_nI hlt (by decide)) (by rw [es5]; exact gl_M_a9) dX7_first_21 ?_
    refine gq_aload_n X dX7_first_22 1 rfl ?_
    refine gq_get (C := RX7) (T := TX7) (N := 34) X iX7_first_X7 0 gl_M_c0 rfl 13 (by decide) fX7_first_X7_13 rfl dX7_first_23 ?_
    refine gq_iload_n X dX7_first_26 0 rfl ?_
    refine gq_iconst (v := 1) X dX7_first_27 gq_i1 ?_
    obtain ⟨s6, es6⟩ : ∃ y, y = ms_choice s5 (upd (mg_choice s5) (gq_ix (nI i)) 1) := ⟨_, rfl⟩
    refine gq_ast (ws' := gw_M cA a s6) X 10 gl_M_c10 (vp_in_nI hlt (by decide)) (by rw [es6]; exact gl_M_a10) dX7_first_28 ?_
    refine gq_iinc (lv' := [(1, .int (nI (i + 1))), (0, .ref (a 0))]) X dX7_first_29 0 rfl (nI_1 i) (by decide) rfl ?_
    refine gq_goto (tgt := 2) X dX7_first_32 (by decide) ?_
    refine gq_eqw (ws' := gw_M cA a (gq_it (kb_X7_first_2 S) 0 S (i + 1))) (by rw [gq_it_s _ _ h0, ← et3]; rw [es6, es5, es4]; rfl) ?_
    exact ih hlt
  · obtain rfl : i = 16 := by omega
    refine gq_icmp_ge (tgt := 35) X dX7_first_5 (by decide) (fun _ => ?_) (fun h => absurd (nI_le (Nat.le_refl _) (by decide)) h)
    refine gq_eqw (ws' := gw_M cA a s1) (by rw [et3, es1]) ?_
    refine gq_iconst (v := 0) X dX7_first_35 gq_i0 ?_
    refine gq_istore_n (lv' := [(1, .int 0), (0, .ref (a 0))]) X dX7_first_36 (by decide) rfl ?_
    refine gq_letr (fun s7 es7 => ?_)
    refine gq_eqw (ws' := gw_M cA a (gq_it (kb_X7_first_37 S) 0 s1 0)) (by rw [gq_it_0]) ?_
    refine gq_loop (N := 8) (i0 := 0) (fun i => gw_M cA a (gq_it (kb_X7_first_37 S) 0 s1 i)) (fun i => [(1, .int (nI i)), (0, .ref (a 0))]) (Nat.zero_le _) (fun i hi h0 ih => ?_)
    obtain ⟨t9, et9⟩ : ∃ y, y = gq_it (kb_X7_first_37 S) 0 s1 i := ⟨_, rfl⟩
    refine gq_eqw (ws' := gw_M cA a t9) (by rw [et9]) ?_
    refine gq_iload_n X dX7_first_37 0 rfl ?_
    refine gq_bipush (v := 8) X dX7_first_38 (by decide) ?_
    rcases Nat.lt_or_ge i 8 with hlt | hge
    · refine gq_icmp_ge (tgt := 70) X dX7_first_40 (by decide) (fun h => absurd h (nI_ge hlt (by decide))) (fun _ => ?_)
      refine gq_aload_n X dX7_first_43 1 rfl ?_
      refine gq_get (C := RX7) (T := TX7) (N := 34) X iX7_first_X7 0 gl_M_c0 rfl 15 (by decide) fX7_first_X7_15 rfl dX7_first_44 ?_
      refine gq_iload_n X dX7_first_47 0 rfl ?_
      refine gq_iconst (v := (-1)) X dX7_first_48 gq_im1 ?_
      obtain ⟨s10, es10⟩ : ∃ y, y = ms_targetAt t9 (upd (mg_targetAt t9) (gq_ix (nI i)) (-1)) := ⟨_, rfl⟩
      refine gq_ast (ws' := gw_M cA a s10) X 11 gl_M_c11 (vp_in_nI hlt (by decide)) (by rw [es10]; exact gl_M_a11) dX7_first_49 ?_
      refine gq_aload_n X dX7_first_50 1 rfl ?_
      refine gq_get (C := RX7) (T := TX7) (N := 34) X iX7_first_X7 0 gl_M_c0 rfl 16 (by decide) fX7_first_X7_16 rfl dX7_first_51 ?_
      refine gq_iload_n X dX7_first_54 0 rfl ?_
      refine gq_iconst (v := 5) X dX7_first_55 gq_i5 ?_
      obtain ⟨s11, es11⟩ : ∃ y, y = ms_targetKind s10 (upd (mg_targetKind s10) (gq_ix (nI i)) 5) := ⟨_, rfl⟩
      refine gq_ast (ws' := gw_M cA a s11) X 12 gl_M_c12 (vp_in_nI hlt (by decide)) (by rw [es11]; exact gl_M_a12) dX7_first_56 ?_
      refine gq_aload_n X dX7_first_57 1 rfl ?_
      refine gq_get (C := RX7) (T := TX7) (N := 34) X iX7_first_X7 0 gl_M_c0 rfl 17 (by decide) fX7_first_X7_17 rfl dX7_first_58 ?_
      refine gq_iload_n X dX7_first_61 0 rfl ?_
      refine gq_iconst (v := 0) X dX7_first_62 gq_i0 ?_
      obtain ⟨s12, es12⟩ : ∃ y, y = ms_target s11 (upd (mg_target s11) (gq_ix (nI i)) 0) := ⟨_, rfl⟩
      refine gq_ast (ws' := gw_M cA a s12) X 13 gl_M_c13 (vp_in_nI hlt (by decide)) (by rw [es12]; exact gl_M_a13) dX7_first_63 ?_
      refine gq_iinc (lv' := [(1, .int (nI (i + 1))), (0, .ref (a 0))]) X dX7_first_64 0 rfl (nI_1 i) (by decide) rfl ?_
      refine gq_goto (tgt := 37) X dX7_first_67 (by decide) ?_
      refine gq_eqw (ws' := gw_M cA a (gq_it (kb_X7_first_37 S) 0 s1 (i + 1))) (by rw [gq_it_s _ _ h0, ← et9]; rw [es12, es11, es10]; rfl) ?_
      exact ih hlt
    · obtain rfl : i = 8 := by omega
      refine gq_icmp_ge (tgt := 70) X dX7_first_40 (by decide) (fun _ => ?_) (fun h => absurd (nI_le (Nat.le_refl _) (by decide)) h)
      refine gq_eqw (ws' := gw_M cA a s7) (by rw [et9, es7]) ?_
      refine gq_aload_n X dX7_first_70 1 rfl ?_
      refine gq_iconst (v := 0) X dX7_first_71 gq_i0 ?_
      refine gq_letr (fun s13 es13 => ?_)
      refine gq_put (C := RX7) (T := TX7) (N := 34) (ws' := gw_M cA a s13) X iX7_first_X7 tyX7 tyX7_ok nmX7 0 gl_M_c0 rfl 14 (by decide) fX7_first_X7_14 rfl rfl rfl (Nat.le_of_ble_eq_true rfl) (by rw [es13]; exact gl_M_f14) dX7_first_72 ?_
      exact gq_vretf X dX7_first_75 rfl rfl
theorem iX7_finish_X7 : ∀ w ∈ u_ws RX7 TX7 34, w ∈ wsX7_finish := by decide +kernel
theorem fX7_finish_X7_20 : Cond.fieldLink RX7 117 (TX7 20).1 (TX7 20).2.1 (TX7 20).2.2.1 ∈ wsX7_finish := by decide +kernel
theorem fX7_finish_X7_27 : Cond.fieldLink RX7 96 (TX7 27).1 (TX7 27).2.1 (TX7 27).2.2.1 ∈ wsX7_finish := by decide +kernel
theorem fX7_finish_X7_28 : Cond.fieldLink RX7 74 (TX7 28).1 (TX7 28).2.1 (TX7 28).2.2.1 ∈ wsX7_finish := by decide +kernel
theorem fX7_finish_X7_30 : Cond.fieldLink RX7 77 (TX7 30).1 (TX7 30).2.1 (TX7 30).2.2.1 ∈ wsX7_finish := by decide +kernel
theorem hv_X7_finish : yX7_finish.cls = RX7 ∧ yX7_finish.cls ≠ "java/lang/invoke/MethodHandle" ∧ yX7_finish.cls ≠ "java/lang/invoke/VarHandle" ∧ (parseMethodDescriptor yX7_finish.desc).map (fun d => d.parameters.length) = some 1 := by decide +kernel
def k_X7_finish (S : gs_M) (x1 : Int32) : gs_M :=
  gq_lt (ms_runs S false) (fun s1 =>
  gq_lt (ms_ended s1 x1) (fun s2 =>
  gq_lt (ms_counts s2 (upd (mg_counts s2) (gq_ix 3) (((mg_counts s2) (gq_ix 3)) + (mg_fetched s2)))) (fun s3 =>
  gq_lt (ms_fetched s3 0) (fun s4 =>
  s4))))
set_option maxHeartbeats 4000000 in
set_option maxRecDepth 100000 in
theorem c_X7_finish (l : Launch) (D : va_G) (cA : ClassId) (a : Nat → Nat) (S : gs_M) (x1 : Int32) : gq_C l yX7_finish wsX7_finish ({ frames := 0, cells := 0, slots := 0, locals := 0 } : Room) D cA [.ref (a 0), .int x1] (gw_M cA a S) (none) (gw_M cA a (k_X7_finish S x1)) := by
  refine gq_openf (own := RX7) (lv := [(0, .ref (a 0)), (1, .int x1)]) (fun r : gs_M => (none, gw_M cA a r)) (k_X7_finish S x1) (by decide) rfl rfl (Nat.le_of_ble_eq_true rfl) rfl rfl rfl (fun p e s m args below meth c A X => ?_)
  unfold k_X7_finish
  refine gq_aload_n X dX7_finish_0 0 rfl ?_
  refine gq_iconst (v := 0) X dX7_finish_1 gq_i0 ?_
  refine gq_letr (fun s1 es1 => ?_)
  refine gq_put (C := RX7) (T := TX7) (N := 34) (ws' := gw_M cA a s1) X iX7_finish_X7 tyX7 tyX7_ok nmX7 0 gl_M_c0 rfl 27 (by decide) fX7_finish_X7_27 rfl rfl rfl (Nat.le_of_ble_eq_true rfl) (by rw [es1]; rfl) dX7_finish_2 ?_
  refine gq_aload_n X dX7_finish_5 0 rfl ?_
  refine gq_iload_n X dX7_finish_6 1 rfl ?_
  refine gq_letr (fun s2 es2 => ?_)
  refine gq_put (C := RX7) (T := TX7) (N := 34) (ws' := gw_M cA a s2) X iX7_finish_X7 tyX7 tyX7_ok nmX7 0 gl_M_c0 rfl 28 (by decide) fX7_finish_X7_28 rfl rfl rfl (Nat.le_of_ble_eq_true rfl) (by rw [es2]; exact gl_M_f28) dX7_finish_7 ?_
  refine gq_aload_n X dX7_finish_10 0 rfl ?_
  refine gq_get (C := RX7) (T := TX7) (N := 34) X iX7_finish_X7 0 gl_M_c0 rfl 30 (by decide) fX7_finish_X7_30 rfl dX7_finish_11 ?_
  refine gq_iconst (v := 3) X dX7_finish_14 gq_i3 ?_
  refine gq_dup2 X dX7_finish_15 rfl rfl ?_
  refine gq_ald X 21 gl_M_c21 (by unfold vp_in; decide) dX7_finish_16 ?_
  refine gq_aload_n X dX7_finish_17 0 rfl ?_
  refine gq_get (C := RX7) (T := TX7) (N := 34) X iX7_finish_X7 0 gl_M_c0 rfl 20 (by decide) fX7_finish_X7_20 rfl dX7_finish_18 ?_
  refine gq_iadd X dX7_finish_21 ?_
  refine gq_letr (fun s3 es3 => ?_)
  refine gq_ast (ws' := gw_M cA a s3) X 21 gl_M_c21 (by unfold vp_in; decide) (by rw [es3]; exact gl_M_a21) dX7_finish_22 ?_
  refine gq_aload_n X dX7_finish_23 0 rfl ?_
  refine gq_iconst (v := 0) X dX7_finish_24 gq_i0 ?_
  refine gq_letr (fun s4 es4 => ?_)
  refine gq_put (C := RX7) (T := TX7) (N := 34) (ws' := gw_M cA a s4) X iX7_finish_X7 tyX7 tyX7_ok nmX7 0 gl_M_c0 rfl 20 (by decide) fX7_finish_X7_20 rfl rfl rfl (Nat.le_of_ble_eq_true rfl) (by rw [es4]; exact gl_M_f20) dX7_finish_25 ?_
  exact gq_vretf X dX7_finish_28 rfl rfl
theorem iX7_push_X7 : ∀ w ∈ u_ws RX7 TX7 34, w ∈ wsX7_push := by decide +kernel
theorem fX7_push_X7_18 : Cond.fieldLink RX7 53 (TX7 18).1 (TX7 18).2.1 (TX7 18).2.2.1 ∈ wsX7_push := by decide +kernel
theorem fX7_push_X7_19 : Cond.fieldLink RX7 120 (TX7 19).1 (TX7 19).2.1 (TX7 19).2.2.1 ∈ wsX7_push := by decide +kernel
theorem hv_X7_push : yX7_push.cls = RX7 ∧ yX7_push.cls ≠ "java/lang/invoke/MethodHandle" ∧ yX7_push.cls ≠ "java/lang/invoke/VarHandle" ∧ (parseMethodDescriptor yX7_push.desc).map (fun d => d.parameters.length) = some 1 := by decide +kernel
def k_X7_push (S : gs_M) (x1 : Int32) : gs_M :=
  if mg_returned S = 4 then
    gq_lt (ms_returns S (upd (mg_returns S) (gq_ix 0) ((mg_returns S) (gq_ix (0 + 1))))) (fun s1 =>
    gq_lt (ms_returns s1 (upd (mg_returns s1) (gq_ix 1) ((mg_returns s1) (gq_ix (1 + 1))))) (fun s2 =>
    gq_lt (ms_returns s2 (upd (mg_returns s2) (gq_ix 2) ((mg_returns s2) (gq_ix (2 + 1))))) (fun s3 =>
    gq_lt (ms_returned s3 ((mg_returned s3) - 1)) (fun s4 =>
    gq_lt (ms_returns s4 (upd (mg_returns s4) (gq_ix (mg_returned s4)) x1)) (fun s5 =>
    gq_lt (ms_returned s5 ((mg_returned s5) + 1)) (fun s6 =>
    s6))))))
  else
    gq_lt (ms_returns S (upd (mg_returns S) (gq_ix (mg_returned S)) x1)) (fun s7 =>
    gq_lt (ms_returned s7 ((mg_returned s7) + 1)) (fun s8 =>
    s8))
set_option maxHeartbeats 4000000 in
set_option maxRecDepth 100000 in
theorem c_X7_push (l : Launch) (D : va_G) (cA : ClassId) (a : Nat → Nat) (S : gs_M) (x1 : Int32) (hr : vp_in (mg_returned S) 5) : gq_C l yX7_push wsX7_push ({ frames := 0, cells := 0, slots := 0, locals := 0 } : Room) D cA [.ref (a 0), .int x1] (gw_M cA a S) (none) (gw_M cA a (k_X7_push S x1)) := by
  refine gq_openf (own := RX7) (lv := [(0, .ref (a 0)), (1, .int x1)]) (fun r : gs_M => (none, gw_M cA a r)) (k_X7_push S x1) (by decide) rfl rfl (Nat.le_of_ble_eq_true rfl) rfl rfl rfl (fun p e s m args below meth c A X => ?_)
  unfold k_X7_push
  refine gq_aload_n X dX7_push_0 0 rfl ?_
  refine gq_get (C := RX7) (T := TX7) (N := 34) X iX7_push_X7 0 gl_M_c0 rfl 19 (by decide) fX7_push_X7_19 rfl dX7_push_1 ?_
  refine gq_iconst (v := 4) X dX7_push_4 gq_i4 ?_
  refine gq_ficmp_ne (tgt := 45) X dX7_push_5 (by decide) (fun h5 => ?_) (fun h5 => ?_)
  · refine gq_iconst (v := 0) X dX7_push_8 gq_i0 ?_
    refine gq_istore_n (lv' := [(2, .int 0), (0, .ref (a 0)), (1, .int x1)]) X dX7_push_9 (by decide) rfl ?_
    refine gq_iload_n X dX7_push_10 0 rfl ?_
    refine gq_iconst (v := 3) X dX7_push_11 gq_i3 ?_
    refine gq_icmp_ge (tgt := 35) X dX7_push_12 (by decide) (fun h => absurd h (by decide)) (fun _ => ?_)
    refine gq_aload_n X dX7_push_15 1 rfl ?_
    refine gq_get (C := RX7) (T := TX7) (N := 34) X iX7_push_X7 0 gl_M_c0 rfl 18 (by decide) fX7_push_X7_18 rfl dX7_push_16 ?_
    refine gq_iload_n X dX7_push_19 0 rfl ?_
    refine gq_aload_n X dX7_push_20 1 rfl ?_
    refine gq_get (C := RX7) (T := TX7) (N := 34) X iX7_push_X7 0 gl_M_c0 rfl 18 (by decide) fX7_push_X7_18 rfl dX7_push_21 ?_
    refine gq_iload_n X dX7_push_24 0 rfl ?_
    refine gq_iconst (v := 1) X dX7_push_25 gq_i1 ?_
    refine gq_iadd X dX7_push_26 ?_
    refine gq_ald X 14 gl_M_c14 (by unfold vp_in; decide) dX7_push_27 ?_
    refine gq_letr (fun s1 es1 => ?_)
    refine gq_ast (ws' := gw_M cA a s1) X 14 gl_M_c14 (by unfold vp_in; decide) (by rw [es1]; exact gl_M_a14) dX7_push_28 ?_
    refine gq_iinc (lv' := [(2, .int 1), (0, .ref (a 0)), (1, .int x1)]) X dX7_push_29 0 rfl (by decide) (by decide) rfl ?_
    refine gq_goto (tgt := 10) X dX7_push_32 (by decide) ?_
    refine gq_iload_n X dX7_push_10 0 rfl ?_
    refine gq_iconst (v := 3) X dX7_push_11 gq_i3 ?_
    refine gq_icmp_ge (tgt := 35) X dX7_push_12 (by decide) (fun h => absurd h (by decide)) (fun _ => ?_)
    refine gq_aload_n X dX7_push_15 1 rfl ?_
    refine gq_get (C := RX7) (T := TX7) (N := 34) X iX7_push_X7 0 gl_M_c0 rfl 18 (by decide) fX7_push_X7_18 rfl dX7_push_16 ?_
    refine gq_iload_n X dX7_push_19 0 rfl ?_
    refine gq_aload_n X dX7_push_20 1 rfl ?_
    refine gq_get (C := RX7) (T := TX7) (N := 34) X iX7_push_X7 0 gl_M_c0 rfl 18 (by decide) fX7_push_X7_18 rfl dX7_push_21 ?_
    refine gq_iload_n X dX7_push_24 0 rfl ?_
    refine gq_iconst (v := 1) X dX7_push_25 gq_i1 ?_
    refine gq_iadd X dX7_push_26 ?_
    refine gq_ald X 14 gl_M_c14 (by unfold vp_in; decide) dX7_push_27 ?_
    refine gq_letr (fun s2 es2 => ?_)
    refine gq_ast (ws' := gw_M cA a s2) X 14 gl_M_c14 (by unfold vp_in; decide) (by rw [es2]; exact gl_M_a14) dX7_push_28 ?_
    refine gq_iinc (lv' := [(2, .int 2), (0, .ref (a 0)), (1, .int x1)]) X dX7_push_29 0 rfl (by decide) (by decide) rfl ?_
    refine gq_goto (tgt := 10) X dX7_push_32 (by decide) ?_
    refine gq_iload_n X dX7_push_10 0 rfl ?_
    refine gq_iconst (v := 3) X dX7_push_11 gq_i3 ?_
    refine gq_icmp_ge (tgt := 35) X dX7_push_12 (by decide) (fun h => absurd h (by decide)) (fun _ => ?_)
    refine gq_aload_n X dX7_push_15 1 rfl ?_
    refine gq_get (C := RX7) (T := TX7) (N := 34) X iX7_push_X7 0 gl_M_c0 rfl 18 (by decide) fX7_push_X7_18 rfl dX7_push_16 ?_
    refine gq_iload_n X dX7_push_19 0 rfl ?_
    refine gq_aload_n X dX7_push_20 1 rfl ?_
    refine gq_get (C := RX7) (T := TX7) (N := 34) X iX7_push_X7 0 gl_M_c0 rfl 18 (by decide) fX7_push_X7_18 rfl dX7_push_21 ?_
    refine gq_iload_n X dX7_push_24 0 rfl ?_
    refine gq_iconst (v := 1) X dX7_push_25 gq_i1 ?_
    refine gq_iadd X dX7_push_26 ?_
    refine gq_ald X 14 gl_M_c14 (by unfold vp_in; decide) dX7_push_27 ?_
    refine gq_letr (fun s3 es3 => ?_)
    refine gq_ast (ws' := gw_M cA a s3) X 14 gl_M_c14 (by unfold vp_in; decide) (by rw [es3]; exact gl_M_a14) dX7_push_28 ?_
    refine gq_iinc (lv' := [(2, .int 3), (0, .ref (a 0)), (1, .int x1)]) X dX7_push_29 0 rfl (by decide) (by decide) rfl ?_
    refine gq_goto (tgt := 10) X dX7_push_32 (by decide) ?_
    refine gq_iload_n X dX7_push_10 0 rfl ?_
    refine gq_iconst (v := 3) X dX7_push_11 gq_i3 ?_
    refine gq_icmp_ge (tgt := 35) X dX7_push_12 (by decide) (fun _ => ?_) (fun h => absurd (by decide) h)
    refine gq_aload_n X dX7_push_35 1 rfl ?_
    refine gq_dup X dX7_push_36 rfl ?_
    refine gq_get (C := RX7) (T := TX7) (N := 34) X iX7_push_X7 0 gl_M_c0 rfl 19 (by decide) fX7_push_X7_19 rfl dX7_push_37 ?_
    refine gq_iconst (v := 1) X dX7_push_40 gq_i1 ?_
    refine gq_isub X dX7_push_41 ?_
    refine gq_letr (fun s4 es4 => ?_)
    refine gq_put (C := RX7) (T := TX7) (N := 34) (ws' := gw_M cA a s4) X iX7_push_X7 tyX7 tyX7_ok nmX7 0 gl_M_c0 rfl 19 (by decide) fX7_push_X7_19 rfl rfl rfl (Nat.le_of_ble_eq_true rfl) (by rw [es4]; exact gl_M_f19) dX7_push_42 ?_
    refine gq_aload_n X dX7_push_45 1 rfl ?_
    refine gq_get (C := RX7) (T := TX7) (N := 34) X iX7_push_X7 0 gl_M_c0 rfl 18 (by decide) fX7_push_X7_18 rfl dX7_push_46 ?_
    refine gq_aload_n X dX7_push_49 1 rfl ?_
    refine gq_get (C := RX7) (T := TX7) (N := 34) X iX7_push_X7 0 gl_M_c0 rfl 19 (by decide) fX7_push_X7_19 rfl dX7_push_50 ?_
    refine gq_iload_n X dX7_push_53 2 rfl ?_
    refine gq_letr (fun s5 es5 => ?_)
    refine gq_ast (ws' := gw_M cA a s5) X 14 gl_M_c14 (by rw [es4, es3, es2, es1]; show vp_in (mg_returned S - 1) 4; rw [h5]; unfold vp_in; decide) (by rw [es5]; exact gl_M_a14) dX7_push_54 ?_
    refine gq_aload_n X dX7_push_55 1 rfl ?_
    refine gq_dup X dX7_push_56 rfl ?_
    refine gq_get (C := RX7) (T := TX7) (N := 34) X iX7_push_X7 0 gl_M_c0 rfl 19 (by decide) fX7_push_X7_19 rfl dX7_push_57 ?_
    refine gq_iconst (v := 1) X dX7_push_60 gq_i1 ?_
    refine gq_iadd X dX7_push_61 ?_
    refine gq_letr (fun s6 es6 => ?_)
    refine gq_put (C := RX7) (T := TX7) (N := 34) (ws' := gw_M cA a s6) X iX7_push_X7 tyX7 tyX7_ok nmX7 0 gl_M_c0 rfl 19 (by decide) fX7_push_X7_19 rfl rfl rfl (Nat.le_of_ble_eq_true rfl) (by rw [es6]; exact gl_M_f19) dX7_push_62 ?_
    exact gq_vretf X dX7_push_65 rfl rfl
  · refine gq_aload_n X dX7_push_45 0 rfl ?_
    refine gq_get (C := RX7) (T := TX7) (N := 34) X iX7_push_X7 0 gl_M_c0 rfl 18 (by decide) fX7_push_X7_18 rfl dX7_push_46 ?_
    refine gq_aload_n X dX7_push_49 0 rfl ?_
    refine gq_get (C := RX7) (T := TX7) (N := 34) X iX7_push_X7 0 gl_M_c0 rfl 19 (by decide) fX7_push_X7_19 rfl dX7_push_50 ?_
    refine gq_iload_n X dX7_push_53 1 rfl ?_
    refine gq_letr (fun s7 es7 => ?_)
    refine gq_ast (ws' := gw_M cA a s7) X 14 gl_M_c14 (mv_ne (by decide) hr (by decide) h5) (by rw [es7]; exact gl_M_a14) dX7_push_54 ?_
    refine gq_aload_n X dX7_push_55 0 rfl ?_
    refine gq_dup X dX7_push_56 rfl ?_
    refine gq_get (C := RX7) (T := TX7) (N := 34) X iX7_push_X7 0 gl_M_c0 rfl 19 (by decide) fX7_push_X7_19 rfl dX7_push_57 ?_
    refine gq_iconst (v := 1) X dX7_push_60 gq_i1 ?_
    refine gq_iadd X dX7_push_61 ?_
    refine gq_letr (fun s8 es8 => ?_)
    refine gq_put (C := RX7) (T := TX7) (N := 34) (ws' := gw_M cA a s8) X iX7_push_X7 tyX7 tyX7_ok nmX7 0 gl_M_c0 rfl 19 (by decide) fX7_push_X7_19 rfl rfl rfl (Nat.le_of_ble_eq_true rfl) (by rw [es8]; exact gl_M_f19) dX7_push_62 ?_
    exact gq_vretf X dX7_push_65 rfl rfl
theorem iX7_bit_X7 : ∀ w ∈ u_ws RX7 TX7 34, w ∈ wsX7_bit := by decide +kernel
theorem fX7_bit_X7_14 : Cond.fieldLink RX7 89 (TX7 14).1 (TX7 14).2.1 (TX7 14).2.2.1 ∈ wsX7_bit := by decide +kernel
theorem hv_X7_bit : yX7_bit.cls = RX7 ∧ yX7_bit.cls ≠ "java/lang/invoke/MethodHandle" ∧ yX7_bit.cls ≠ "java/lang/invoke/VarHandle" ∧ (parseMethodDescriptor yX7_bit.desc).map (fun d => d.parameters.length) = some 1 := by decide +kernel
def k_X7_bit (S : gs_M) (y1 : Bool) : gs_M :=
  if y1 = true then
    gq_lt (ms_history S ((gq_rem (2 * (mg_history S)) 16) + 1)) (fun s1 =>
    s1)
  else
    gq_lt (ms_history S ((gq_rem (2 * (mg_history S)) 16) + 0)) (fun s2 =>
    s2)
set_option maxHeartbeats 4000000 in
set_option maxRecDepth 100000 in
theorem c_X7_bit (l : Launch) (D : va_G) (cA : ClassId) (a : Nat → Nat) (S : gs_M) (y1 : Bool) : gq_C l yX7_bit wsX7_bit ({ frames := 0, cells := 0, slots := 0, locals := 0 } : Room) D cA [.ref (a 0), .int (gq_b y1)] (gw_M cA a S) (none) (gw_M cA a (k_X7_bit S y1)) := by
  refine gq_openf (own := RX7) (lv := [(0, .ref (a 0)), (1, .int (gq_b y1))]) (fun r : gs_M => (none, gw_M cA a r)) (k_X7_bit S y1) (by decide) rfl rfl (Nat.le_of_ble_eq_true rfl) rfl rfl rfl (fun p e s m args below meth c A X => ?_)
  unfold k_X7_bit
  refine gq_aload_n X dX7_bit_0 0 rfl ?_
  refine gq_iconst (v := 2) X dX7_bit_1 gq_i2 ?_
  refine gq_aload_n X dX7_bit_2 0 rfl ?_
  refine gq_get (C := RX7) (T := TX7) (N := 34) X iX7_bit_X7 0 gl_M_c0 rfl 14 (by decide) fX7_bit_X7_14 rfl dX7_bit_3 ?_
  refine gq_imul X dX7_bit_6 ?_
  refine gq_bipush (v := 16) X dX7_bit_7 (by decide) ?_
  refine gq_irem X dX7_bit_9 (by decide) ?_
  refine gq_iload_n X dX7_bit_10 1 rfl ?_
  refine gq_fbif_eq (tgt := 18) X dX7_bit_11 (by decide) (fun h11 => ?_) (fun h11 => ?_)
  · refine gq_iconst (v := 1) X dX7_bit_14 gq_i1 ?_
    refine gq_goto (tgt := 19) X dX7_bit_15 (by decide) ?_
    refine gq_iadd X dX7_bit_19 ?_
    refine gq_letr (fun s1 es1 => ?_)
    refine gq_put (C := RX7) (T := TX7) (N := 34) (ws' := gw_M cA a s1) X iX7_bit_X7 tyX7 tyX7_ok nmX7 0 gl_M_c0 rfl 14 (by decide) fX7_bit_X7_14 rfl rfl rfl (Nat.le_of_ble_eq_true rfl) (by rw [es1]; exact gl_M_f14) dX7_bit_20 ?_
    exact gq_vretf X dX7_bit_23 rfl rfl
  · refine gq_iconst (v := 0) X dX7_bit_18 gq_i0 ?_
    refine gq_iadd X dX7_bit_19 ?_
    refine gq_letr (fun s2 es2 => ?_)
    refine gq_put (C := RX7) (T := TX7) (N := 34) (ws' := gw_M cA a s2) X iX7_bit_X7 tyX7 tyX7_ok nmX7 0 gl_M_c0 rfl 14 (by decide) fX7_bit_X7_14 rfl rfl rfl (Nat.le_of_ble_eq_true rfl) (by rw [es2]; exact gl_M_f14) dX7_bit_20 ?_
    exact gq_vretf X dX7_bit_23 rfl rfl
theorem hv_X7_mixedAt : yX7_mixedAt.cls = RX7 ∧ yX7_mixedAt.cls ≠ "java/lang/invoke/MethodHandle" ∧ yX7_mixedAt.cls ≠ "java/lang/invoke/VarHandle" ∧ (parseMethodDescriptor yX7_mixedAt.desc).map (fun d => d.parameters.length) = some 2 := by decide +kernel
def k_X7_mixedAt (S : gs_M) (x1 : Int32) (x2 : Int32) : Int32 :=
  (gq_rem x1 16) ^^^ x2
set_option maxHeartbeats 4000000 in
set_option maxRecDepth 100000 in
theorem c_X7_mixedAt (l : Launch) (D : va_G) (cA : ClassId) (a : Nat → Nat) (S : gs_M) (x1 : Int32) (x2 : Int32) : gq_C l yX7_mixedAt wsX7_mixedAt ({ frames := 0, cells := 0, slots := 0, locals := 0 } : Room) D cA [.ref (a 0), .int x1, .int x2] (gw_M cA a S) (some (.int (k_X7_mixedAt S x1 x2))) (gw_M cA a S) := by
  refine gq_openf (own := RX7) (lv := [(0, .ref (a 0)), (1, .int x1), (2, .int x2)]) (fun r : Int32 => (some (.int r), gw_M cA a S)) (k_X7_mixedAt S x1 x2) (by decide) rfl rfl (Nat.le_of_ble_eq_true rfl) rfl rfl rfl (fun p e s m args below meth c A X => ?_)
  unfold k_X7_mixedAt
  refine gq_iload_n X dX7_mixedAt_0 1 rfl ?_
  refine gq_bipush (v := 16) X dX7_mixedAt_1 (by decide) ?_
  refine gq_irem X dX7_mixedAt_3 (by decide) ?_
  refine gq_iload_n X dX7_mixedAt_4 2 rfl ?_
  refine gq_ixor X dX7_mixedAt_5 ?_
  exact gq_iretf X dX7_mixedAt_6 rfl rfl
theorem iX7_guessesTurn_X7 : ∀ w ∈ u_ws RX7 TX7 34, w ∈ wsX7_guessesTurn := by decide +kernel
theorem fX7_guessesTurn_X7_9 : Cond.fieldLink RX7 111 (TX7 9).1 (TX7 9).2.1 (TX7 9).2.2.1 ∈ wsX7_guessesTurn := by decide +kernel
theorem fX7_guessesTurn_X7_11 : Cond.fieldLink RX7 35 (TX7 11).1 (TX7 11).2.1 (TX7 11).2.2.1 ∈ wsX7_guessesTurn := by decide +kernel
theorem fX7_guessesTurn_X7_12 : Cond.fieldLink RX7 38 (TX7 12).1 (TX7 12).2.1 (TX7 12).2.2.1 ∈ wsX7_guessesTurn := by decide +kernel
theorem fX7_guessesTurn_X7_13 : Cond.fieldLink RX7 41 (TX7 13).1 (TX7 13).2.1 (TX7 13).2.2.1 ∈ wsX7_guessesTurn := by decide +kernel
theorem fX7_guessesTurn_X7_14 : Cond.fieldLink RX7 89 (TX7 14).1 (TX7 14).2.1 (TX7 14).2.2.1 ∈ wsX7_guessesTurn := by decide +kernel
theorem hv_X7_guessesTurn : yX7_guessesTurn.cls = RX7 ∧ yX7_guessesTurn.cls ≠ "java/lang/invoke/MethodHandle" ∧ yX7_guessesTurn.cls ≠ "java/lang/invoke/VarHandle" ∧ (parseMethodDescriptor yX7_guessesTurn.desc).map (fun d => d.parameters.length) = some 1 := by decide +kernel
def k_X7_guessesTurn (S : gs_M) (x1 : Int32) : Bool :=
  if mg_way S = 0 then
    false
  else
    if mg_way S = 1 then
      if (mg_plain S) (gq_ix (gq_rem x1 16)) ≤ 1 then
        false
      else
        true
    else
      if mg_way S = 2 then
        if (mg_mixed S) (gq_ix (k_X7_mixedAt S x1 (mg_history S))) ≤ 1 then
          false
        else
          true
      else
        if (mg_choice S) (gq_ix (gq_rem x1 16)) ≤ 1 then
          if (mg_plain S) (gq_ix (gq_rem x1 16)) ≤ 1 then
            false
          else
            true
        else
          if (mg_mixed S) (gq_ix (k_X7_mixedAt S x1 (mg_history S))) ≤ 1 then
            false
          else
            true
set_option maxHeartbeats 4000000 in
set_option maxRecDepth 100000 in
theorem c_X7_guessesTurn (l : Launch) (D : va_G) (cA : ClassId) (a : Nat → Nat) (S : gs_M) (x1 : Int32) (hp : vp_in x1 60) (hh : vp_in (mg_history S) 16) : gq_C l yX7_guessesTurn wsX7_guessesTurn ({ frames := 1, cells := 0, slots := 0, locals := 22 } : Room) D cA [.ref (a 0), .int x1] (gw_M cA a S) (some (.int (gq_b (k_X7_guessesTurn S x1)))) (gw_M cA a S) := by
  refine gq_openf (own := RX7) (lv := [(0, .ref (a 0)), (1, .int x1)]) (fun r : Bool => (some (.int (gq_b r)), gw_M cA a S)) (k_X7_guessesTurn S x1) (by decide) rfl rfl (Nat.le_of_ble_eq_true rfl) rfl rfl rfl (fun p e s m args below meth c A X => ?_)
  unfold k_X7_guessesTurn
  refine gq_aload_n X dX7_guessesTurn_0 0 rfl ?_
  refine gq_get (C := RX7) (T := TX7) (N := 34) X iX7_guessesTurn_X7 0 gl_M_c0 rfl 9 (by decide) fX7_guessesTurn_X7_9 rfl dX7_guessesTurn_1 ?_
  refine gq_ite (fun h4_0 => ?_) (fun h4_0 => ?_)
  · refine gq_tin (k := 0) (off := 28) (tgt := 32) X dX7_guessesTurn_4 h4_0 (by decide) (by decide) (by decide) (by decide) ?_
    refine gq_iconst (v := 0) X dX7_guessesTurn_32 gq_i0 ?_
    exact gq_zretf (b := false) X dX7_guessesTurn_33 rfl rfl rfl
  · refine gq_ite (fun h4_1 => ?_) (fun h4_1 => ?_)
    · refine gq_tin (k := 1) (off := 30) (tgt := 34) X dX7_guessesTurn_4 h4_1 (by decide) (by decide) (by decide) (by decide) ?_
      refine gq_aload_n X dX7_guessesTurn_34 0 rfl ?_
      refine gq_get (C := RX7) (T := TX7) (N := 34) X iX7_guessesTurn_X7 0 gl_M_c0 rfl 11 (by decide) fX7_guessesTurn_X7_11 rfl dX7_guessesTurn_35 ?_
      refine gq_iload_n X dX7_guessesTurn_38 1 rfl ?_
      refine gq_bipush (v := 16) X dX7_guessesTurn_39 (by decide) ?_
      refine gq_irem X dX7_guessesTurn_41 (by decide) ?_
      refine gq_ald X 8 gl_M_c8 (mv_rem16 hp) dX7_guessesTurn_42 ?_
      refine gq_iconst (v := 1) X dX7_guessesTurn_43 gq_i1 ?_
      refine gq_ficmp_le (tgt := 51) X dX7_guessesTurn_44 (by decide) (fun h44 => ?_) (fun h44 => ?_)
      · refine gq_iconst (v := 0) X dX7_guessesTurn_51 gq_i0 ?_
        exact gq_zretf (b := false) X dX7_guessesTurn_52 rfl rfl rfl
      · refine gq_iconst (v := 1) X dX7_guessesTurn_47 gq_i1 ?_
        refine gq_goto (tgt := 52) X dX7_guessesTurn_48 (by decide) ?_
        exact gq_zretf (b := true) X dX7_guessesTurn_52 rfl rfl rfl
    · refine gq_ite (fun h4_2 => ?_) (fun h4_2 => ?_)
      · refine gq_tin (k := 2) (off := 49) (tgt := 53) X dX7_guessesTurn_4 h4_2 (by decide) (by decide) (by decide) (by decide) ?_
        refine gq_aload_n X dX7_guessesTurn_53 0 rfl ?_
        refine gq_get (C := RX7) (T := TX7) (N := 34) X iX7_guessesTurn_X7 0 gl_M_c0 rfl 12 (by decide) fX7_guessesTurn_X7_12 rfl dX7_guessesTurn_54 ?_
        refine gq_aload_n X dX7_guessesTurn_57 0 rfl ?_
        refine gq_iload_n X dX7_guessesTurn_58 1 rfl ?_
        refine gq_aload_n X dX7_guessesTurn_59 0 rfl ?_
        refine gq_get (C := RX7) (T := TX7) (N := 34) X iX7_guessesTurn_X7 0 gl_M_c0 rfl 14 (by decide) fX7_guessesTurn_X7_14 rfl dX7_guessesTurn_60 ?_
        refine gq_callVr (ws' := gw_M cA a S) X (c_X7_mixedAt l D cA a S x1 (mg_history S)) rfl ⟨rfl, rfl⟩ ⟨Nat.le_of_ble_eq_true rfl, Nat.le_of_ble_eq_true rfl⟩ gX7_guessesTurn_X7_mixedAt hv_X7_mixedAt 0 gl_M_c0 rfl [0, 1, 2, 3, 4, 5, 6, 7, 8, 9, 10, 11, 12, 13, 14, 15, 16, 17, 18, 19, 20, 21, 22, 23] gl_M_self_at gl_M_self_nd gl_M_fst gl_M_self_same rfl rfl (Nat.le_of_ble_eq_true rfl) ⟨Nat.zero_le _, Nat.zero_le _⟩ dX7_guessesTurn_63 ?_
        refine gq_ald X 9 gl_M_c9 (mv_xor (mv_rem16 hp) hh) dX7_guessesTurn_66 ?_
        refine gq_iconst (v := 1) X dX7_guessesTurn_67 gq_i1 ?_
        refine gq_ficmp_le (tgt := 75) X dX7_guessesTurn_68 (by decide) (fun h68 => ?_) (fun h68 => ?_)
        · refine gq_iconst (v := 0) X dX7_guessesTurn_75 gq_i0 ?_
          exact gq_zretf (b := false) X dX7_guessesTurn_76 rfl rfl rfl
        · refine gq_iconst (v := 1) X dX7_guessesTurn_71 gq_i1 ?_
          refine gq_goto (tgt := 76) X dX7_guessesTurn_72 (by decide) ?_
          exact gq_zretf (b := true) X dX7_guessesTurn_76 rfl rfl rfl
      · refine gq_tout (tgt := 77) X dX7_guessesTurn_4 (by have q0 := lv_neT h4_0 (show (0 : Int32).toInt = 0 by decide); have q1 := lv_neT h4_1 (show (1 : Int32).toInt = 1 by decide); have q2 := lv_neT h4_2 (show (2 : Int32).toInt = 2 by decide); omega) (by decide) ?_
        refine gq_aload_n X dX7_guessesTurn_77 0 rfl ?_
        refine gq_get (C := RX7) (T := TX7) (N := 34) X iX7_guessesTurn_X7 0 gl_M_c0 rfl 13 (by decide) fX7_guessesTurn_X7_13 rfl dX7_guessesTurn_78 ?_
        refine gq_iload_n X dX7_guessesTurn_81 1 rfl ?_
        refine gq_bipush (v := 16) X dX7_guessesTurn_82 (by decide) ?_
        refine gq_irem X dX7_guessesTurn_84 (by decide) ?_
        refine gq_ald X 10 gl_M_c10 (mv_rem16 hp) dX7_guessesTurn_85 ?_
        refine gq_iconst (v := 1) X dX7_guessesTurn_86 gq_i1 ?_
        refine gq_ficmp_le (tgt := 116) X dX7_guessesTurn_87 (by decide) (fun h87 => ?_) (fun h87 => ?_)
        · refine gq_aload_n X dX7_guessesTurn_116 0 rfl ?_
          refine gq_get (C := RX7) (T := TX7) (N := 34) X iX7_guessesTurn_X7 0 gl_M_c0 rfl 11 (by decide) fX7_guessesTurn_X7_11 rfl dX7_guessesTurn_117 ?_
          refine gq_iload_n X dX7_guessesTurn_120 1 rfl ?_
          refine gq_bipush (v := 16) X dX7_guessesTurn_121 (by decide) ?_
          refine gq_irem X dX7_guessesTurn_123 (by decide) ?_
          refine gq_ald X 8 gl_M_c8 (mv_rem16 hp) dX7_guessesTurn_124 ?_
          refine gq_iconst (v := 1) X dX7_guessesTurn_125 gq_i1 ?_
          refine gq_ficmp_le (tgt := 133) X dX7_guessesTurn_126 (by decide) (fun h126 => ?_) (fun h126 => ?_)
          · refine gq_iconst (v := 0) X dX7_guessesTurn_133 gq_i0 ?_
            exact gq_zretf (b := false) X dX7_guessesTurn_134 rfl rfl rfl
          · refine gq_iconst (v := 1) X dX7_guessesTurn_129 gq_i1 ?_
            refine gq_goto (tgt := 134) X dX7_guessesTurn_130 (by decide) ?_
            exact gq_zretf (b := true) X dX7_guessesTurn_134 rfl rfl rfl
        · refine gq_aload_n X dX7_guessesTurn_90 0 rfl ?_
          refine gq_get (C := RX7) (T := TX7) (N := 34) X iX7_guessesTurn_X7 0 gl_M_c0 rfl 12 (by decide) fX7_guessesTurn_X7_12 rfl dX7_guessesTurn_91 ?_
          refine gq_aload_n X dX7_guessesTurn_94 0 rfl ?_
          refine gq_iload_n X dX7_guessesTurn_95 1 rfl ?_
          refine gq_aload_n X dX7_guessesTurn_96 0 rfl ?_
          refine gq_get (C := RX7) (T := TX7) (N := 34) X iX7_guessesTurn_X7 0 gl_M_c0 rfl 14 (by decide) fX7_guessesTurn_X7_14 rfl dX7_guessesTurn_97 ?_
          refine gq_callVr (ws' := gw_M cA a S) X (c_X7_mixedAt l D cA a S x1 (mg_history S)) rfl ⟨rfl, rfl⟩ ⟨Nat.le_of_ble_eq_true rfl, Nat.le_of_ble_eq_true rfl⟩ gX7_guessesTurn_X7_mixedAt hv_X7_mixedAt 0 gl_M_c0 rfl [0, 1, 2, 3, 4, 5, 6, 7, 8, 9, 10, 11, 12, 13, 14, 15, 16, 17, 18, 19, 20, 21, 22, 23] gl_M_self_at gl_M_self_nd gl_M_fst gl_M_self_same rfl rfl (Nat.le_of_ble_eq_true rfl) ⟨Nat.zero_le _, Nat.zero_le _⟩ dX7_guessesTurn_100 ?_
          refine gq_ald X 9 gl_M_c9 (mv_xor (mv_rem16 hp) hh) dX7_guessesTurn_103 ?_
          refine gq_iconst (v := 1) X dX7_guessesTurn_104 gq_i1 ?_
          refine gq_ficmp_le (tgt := 112) X dX7_guessesTurn_105 (by decide) (fun h105 => ?_) (fun h105 => ?_)
          · refine gq_iconst (v := 0) X dX7_guessesTurn_112 gq_i0 ?_
            refine gq_goto (tgt := 134) X dX7_guessesTurn_113 (by decide) ?_
            exact gq_zretf (b := false) X dX7_guessesTurn_134 rfl rfl rfl
          · refine gq_iconst (v := 1) X dX7_guessesTurn_108 gq_i1 ?_
            refine gq_goto (tgt := 134) X dX7_guessesTurn_109 (by decide) ?_
            exact gq_zretf (b := true) X dX7_guessesTurn_134 rfl rfl rfl
theorem iX7_guess_X7 : ∀ w ∈ u_ws RX7 TX7 34, w ∈ wsX7_guess := by decide +kernel
theorem fX7_guess_X7_15 : Cond.fieldLink RX7 44 (TX7 15).1 (TX7 15).2.1 (TX7 15).2.2.1 ∈ wsX7_guess := by decide +kernel
theorem fX7_guess_X7_16 : Cond.fieldLink RX7 47 (TX7 16).1 (TX7 16).2.1 (TX7 16).2.2.1 ∈ wsX7_guess := by decide +kernel
theorem fX7_guess_X7_17 : Cond.fieldLink RX7 50 (TX7 17).1 (TX7 17).2.1 (TX7 17).2.2.1 ∈ wsX7_guess := by decide +kernel
theorem fX7_guess_X7_18 : Cond.fieldLink RX7 53 (TX7 18).1 (TX7 18).2.1 (TX7 18).2.2.1 ∈ wsX7_guess := by decide +kernel
theorem fX7_guess_X7_19 : Cond.fieldLink RX7 120 (TX7 19).1 (TX7 19).2.1 (TX7 19).2.2.1 ∈ wsX7_guess := by decide +kernel
theorem fX7_guess_X7_30 : Cond.fieldLink RX7 77 (TX7 30).1 (TX7 30).2.1 (TX7 30).2.2.1 ∈ wsX7_guess := by decide +kernel
theorem hv_X7_guess : yX7_guess.cls = RX7 ∧ yX7_guess.cls ≠ "java/lang/invoke/MethodHandle" ∧ yX7_guess.cls ≠ "java/lang/invoke/VarHandle" ∧ (parseMethodDescriptor yX7_guess.desc).map (fun d => d.parameters.length) = some 1 := by decide +kernel
def k_X7_guess (S : gs_M) (x1 : Int32) : Int32 × gs_M :=
  gq_lt (gq_rem x1 8) (fun v1 =>
  if (mg_targetAt S) (gq_ix v1) = x1 then
    gq_lt (ms_counts S (upd (mg_counts S) (gq_ix 8) (((mg_counts S) (gq_ix 8)) + 1))) (fun s2 =>
    gq_lt ((mg_targetKind s2) (gq_ix v1)) (fun v3 =>
    if v3 = 5 then
      gq_lt (k_X7_guessesTurn s2 x1) (fun b4 =>
      gq_lt (k_X7_bit s2 b4) (fun s5 =>
      if b4 = true then
        ((mg_target s5) (gq_ix v1), s5)
      else
        (x1 + 1, s5)))
    else
      if v3 = 6 then
        gq_lt (k_X7_guessesTurn s2 x1) (fun b6 =>
        gq_lt (k_X7_bit s2 b6) (fun s7 =>
        if b6 = true then
          ((mg_target s7) (gq_ix v1), s7)
        else
          (x1 + 1, s7)))
      else
        if v3 = 8 then
          gq_lt (k_X7_push s2 (x1 + 1)) (fun s8 =>
          ((mg_target s8) (gq_ix v1), s8))
        else
          if v3 = 9 then
            if mg_returned s2 = 0 then
              (x1 + 1, s2)
            else
              gq_lt (ms_returned s2 ((mg_returned s2) - 1)) (fun s9 =>
              ((mg_returns s9) (gq_ix (mg_returned s9)), s9))
          else
            ((mg_target s2) (gq_ix v1), s2)))
  else
    (x1 + 1, S))
set_option maxHeartbeats 4000000 in
set_option maxRecDepth 100000 in
theorem c_X7_guess (l : Launch) (D : va_G) (cA : ClassId) (a : Nat → Nat) (S : gs_M) (x1 : Int32) (hp : vp_in x1 60) (hh : vp_in (mg_history S) 16) (hr : vp_in (mg_returned S) 5) : gq_C l yX7_guess wsX7_guess ({ frames := 2, cells := 0, slots := 0, locals := 43 } : Room) D cA [.ref (a 0), .int x1] (gw_M cA a S) (some (.int (k_X7_guess S x1).1)) (gw_M cA a ((k_X7_guess S x1).2)) := by
  refine gq_openf (own := RX7) (lv := [(0, .ref (a 0)), (1, .int x1)]) (fun r : Int32 × gs_M => (some (.int r.1), gw_M cA a r.2)) (k_X7_guess S x1) (by decide) rfl rfl (Nat.le_of_ble_eq_true rfl) rfl rfl rfl (fun p e s m args below meth c A X => ?_)
  unfold k_X7_guess
  refine gq_iload_n X dX7_guess_0 1 rfl ?_
  refine gq_bipush (v := 8) X dX7_guess_1 (by decide) ?_
  refine gq_irem X dX7_guess_3 (by decide) ?_
  refine gq_letr (fun v1 ev1 => ?_)
  refine gq_eqst (st' := .int v1 :: _) (by rw [ev1]) ?_
  refine gq_istore_n (lv' := [(2, .int v1), (0, .ref (a 0)), (1, .int x1)]) X dX7_guess_4 (by decide) rfl ?_
  refine gq_aload_n X dX7_guess_5 1 rfl ?_
  refine gq_get (C := RX7) (T := TX7) (N := 34) X iX7_guess_X7 0 gl_M_c0 rfl 15 (by decide) fX7_guess_X7_15 rfl dX7_guess_6 ?_
  refine gq_iload_n X dX7_guess_9 0 rfl ?_
  refine gq_ald X 11 gl_M_c11 (by rw [ev1]; exact mv_rem8 hp) dX7_guess_10 ?_
  refine gq_iload_n X dX7_guess_11 2 rfl ?_
  refine gq_ficmp_eq (tgt := 19) X dX7_guess_12 (by decide) (fun h12 => ?_) (fun h12 => ?_)
  · refine gq_aload_n X dX7_guess_19 1 rfl ?_
    refine gq_get (C := RX7) (T := TX7) (N := 34) X iX7_guess_X7 0 gl_M_c0 rfl 30 (by decide) fX7_guess_X7_30 rfl dX7_guess_20 ?_
    refine gq_bipush (v := 8) X dX7_guess_23 (by decide) ?_
    refine gq_dup2 X dX7_guess_25 rfl rfl ?_
    refine gq_ald X 21 gl_M_c21 (by unfold vp_in; decide) dX7_guess_26 ?_
    refine gq_iconst (v := 1) X dX7_guess_27 gq_i1 ?_
    refine gq_iadd X dX7_guess_28 ?_
    refine gq_letr (fun s2 es2 => ?_)
    refine gq_ast (ws' := gw_M cA a s2) X 21 gl_M_c21 (by unfold vp_in; decide) (by rw [es2]; exact gl_M_a21) dX7_guess_29 ?_
    refine gq_aload_n X dX7_guess_30 1 rfl ?_
    refine gq_get (C := RX7) (T := TX7) (N := 34) X iX7_guess_X7 0 gl_M_c0 rfl 16 (by decide) fX7_guess_X7_16 rfl dX7_guess_31 ?_
    refine gq_iload_n X dX7_guess_34 0 rfl ?_
    refine gq_ald X 12 gl_M_c12 (by rw [ev1]; exact mv_rem8 hp) dX7_guess_35 ?_
    refine gq_letr (fun v3 ev3 => ?_)
    refine gq_eqst (st' := .int v3 :: _) (by rw [ev3]) ?_
    refine gq_istore_n (lv' := [(3, .int v3), (2, .int v1), (0, .ref (a 0)), (1, .int x1)]) X dX7_guess_36 (by decide) rfl ?_
    refine gq_iload_n X dX7_guess_37 0 rfl ?_
    refine gq_iconst (v := 5) X dX7_guess_38 gq_i5 ?_
    refine gq_ficmp_eq (tgt := 48) X dX7_guess_39 (by decide) (fun h39 => ?_) (fun h39 => ?_)
    · refine gq_aload_n X dX7_guess_48 2 rfl ?_
      refine gq_iload_n X dX7_guess_49 3 rfl ?_
      refine gq_callVr (ws' := gw_M cA a s2) X (c_X7_guessesTurn l D cA a s2 x1 hp (by rw [es2]; exact hh)) rfl ⟨rfl, rfl⟩ ⟨Nat.le_of_ble_eq_true rfl, Nat.le_of_ble_eq_true rfl⟩ gX7_guess_X7_guessesTurn hv_X7_guessesTurn 0 gl_M_c0 rfl [0, 1, 2, 3, 4, 5, 6, 7, 8, 9, 10, 11, 12, 13, 14, 15, 16, 17, 18, 19, 20, 21, 22, 23] gl_M_self_at gl_M_self_nd gl_M_fst gl_M_self_same rfl rfl (Nat.le_of_ble_eq_true rfl) ⟨Nat.zero_le _, Nat.zero_le _⟩ dX7_guess_50 ?_
      refine gq_letr (fun b4 eb4 => ?_)
      refine gq_eqst (st' := .int (gq_b b4) :: _) (by rw [eb4]) ?_
      refine gq_istore (lv' := [(4, .int (gq_b b4)), (3, .int v3), (2, .int v1), (0, .ref (a 0)), (1, .int x1)]) X dX7_guess_53 (by decide) rfl ?_
      refine gq_aload_n X dX7_guess_55 3 rfl ?_
      refine gq_iload X dX7_guess_56 0 rfl ?_
      refine gq_letr (fun s5 es5 => ?_)
      refine gq_callVv (ws' := gw_M cA a s5) X (c_X7_bit l D cA a s2 b4) rfl ⟨rfl, rfl⟩ ⟨Nat.le_of_ble_eq_true rfl, Nat.le_of_ble_eq_true rfl⟩ gX7_guess_X7_bit hv_X7_bit 0 gl_M_c0 rfl [0, 1, 2, 3, 4, 5, 6, 7, 8, 9, 10, 11, 12, 13, 14, 15, 16, 17, 18, 19, 20, 21, 22, 23] gl_M_self_at gl_M_self_nd gl_M_fst (by rw [es5]; exact gl_M_self_set) rfl rfl (Nat.le_of_ble_eq_true rfl) ⟨Nat.zero_le _, Nat.zero_le _⟩ dX7_guess_58 ?_
      refine gq_iload X dX7_guess_61 0 rfl ?_
      refine gq_fbif_eq (tgt := 75) X dX7_guess_63 (by decide) (fun h63 => ?_) (fun h63 => ?_)
      · refine gq_aload_n X dX7_guess_66 3 rfl ?_
        refine gq_get (C := RX7) (T := TX7) (N := 34) X iX7_guess_X7 0 gl_M_c0 rfl 17 (by decide) fX7_guess_X7_17 rfl dX7_guess_67 ?_
        refine gq_iload_n X dX7_guess_70 2 rfl ?_
        refine gq_ald X 13 gl_M_c13 (by rw [ev1]; exact mv_rem8 hp) dX7_guess_71 ?_
        refine gq_goto (tgt := 78) X dX7_guess_72 (by decide) ?_
        exact gq_iretf X dX7_guess_78 rfl rfl
      · refine gq_iload_n X dX7_guess_75 4 rfl ?_
        refine gq_iconst (v := 1) X dX7_guess_76 gq_i1 ?_
        refine gq_iadd X dX7_guess_77 ?_
        exact gq_iretf X dX7_guess_78 rfl rfl
    · refine gq_iload_n X dX7_guess_42 0 rfl ?_
      refine gq_bipush (v := 6) X dX7_guess_43 (by decide) ?_
      refine gq_ficmp_ne (tgt := 79) X dX7_guess_45 (by decide) (fun h45 => ?_) (fun h45 => ?_)
      · refine gq_aload_n X dX7_guess_48 2 rfl ?_
        refine gq_iload_n X dX7_guess_49 3 rfl ?_
        refine gq_callVr (ws' := gw_M cA a s2) X (c_X7_guessesTurn l D cA a s2 x1 hp (by rw [es2]; exact hh)) rfl ⟨rfl, rfl⟩ ⟨Nat.le_of_ble_eq_true rfl, Nat.le_of_ble_eq_true rfl⟩ gX7_guess_X7_guessesTurn hv_X7_guessesTurn 0 gl_M_c0 rfl [0, 1, 2, 3, 4, 5, 6, 7, 8, 9, 10, 11, 12, 13, 14, 15, 16, 17, 18, 19, 20, 21, 22, 23] gl_M_self_at gl_M_self_nd gl_M_fst gl_M_self_same rfl rfl (Nat.le_of_ble_eq_true rfl) ⟨Nat.zero_le _, Nat.zero_le _⟩ dX7_guess_50 ?_
        refine gq_letr (fun b6 eb6 => ?_)
        refine gq_eqst (st' := .int (gq_b b6) :: _) (by rw [eb6]) ?_
        refine gq_istore (lv' := [(4, .int (gq_b b6)), (3, .int v3), (2, .int v1), (0, .ref (a 0)), (1, .int x1)]) X dX7_guess_53 (by decide) rfl ?_
        refine gq_aload_n X dX7_guess_55 3 rfl ?_
        refine gq_iload X dX7_guess_56 0 rfl ?_
        refine gq_letr (fun s7 es7 => ?_)
        refine gq_callVv (ws' := gw_M cA a s7) X (c_X7_bit l D cA a s2 b6) rfl ⟨rfl, rfl⟩ ⟨Nat.le_of_ble_eq_true rfl, Nat.le_of_ble_eq_true rfl⟩ gX7_guess_X7_bit hv_X7_bit 0 gl_M_c0 rfl [0, 1, 2, 3, 4, 5, 6, 7, 8, 9, 10, 11, 12, 13, 14, 15, 16, 17, 18, 19, 20, 21, 22, 23] gl_M_self_at gl_M_self_nd gl_M_fst (by rw [es7]; exact gl_M_self_set) rfl rfl (Nat.le_of_ble_eq_true rfl) ⟨Nat.zero_le _, Nat.zero_le _⟩ dX7_guess_58 ?_
        refine gq_iload X dX7_guess_61 0 rfl ?_
        refine gq_fbif_eq (tgt := 75) X dX7_guess_63 (by decide) (fun h63 => ?_) (fun h63 => ?_)
        · refine gq_aload_n X dX7_guess_66 3 rfl ?_
          refine gq_get (C := RX7) (T := TX7) (N := 34) X iX7_guess_X7 0 gl_M_c0 rfl 17 (by decide) fX7_guess_X7_17 rfl dX7_guess_67 ?_
          refine gq_iload_n X dX7_guess_70 2 rfl ?_
          refine gq_ald X 13 gl_M_c13 (by rw [ev1]; exact mv_rem8 hp) dX7_guess_71 ?_
          refine gq_goto (tgt := 78) X dX7_guess_72 (by decide) ?_
          exact gq_iretf X dX7_guess_78 rfl rfl
        · refine gq_iload_n X dX7_guess_75 4 rfl ?_
          refine gq_iconst (v := 1) X dX7_guess_76 gq_i1 ?_
          refine gq_iadd X dX7_guess_77 ?_
          exact gq_iretf X dX7_guess_78 rfl rfl
      · refine gq_iload_n X dX7_guess_79 0 rfl ?_
        refine gq_bipush (v := 8) X dX7_guess_80 (by decide) ?_
        refine gq_ficmp_ne (tgt := 95) X dX7_guess_82 (by decide) (fun h82 => ?_) (fun h82 => ?_)
        · refine gq_aload_n X dX7_guess_85 2 rfl ?_
          refine gq_iload_n X dX7_guess_86 3 rfl ?_
          refine gq_iconst (v := 1) X dX7_guess_87 gq_i1 ?_
          refine gq_iadd X dX7_guess_88 ?_
          refine gq_letr (fun s8 es8 => ?_)
          refine gq_callVv (ws' := gw_M cA a s8) X (c_X7_push l D cA a s2 (x1 + 1) (by rw [es2]; exact hr)) rfl ⟨rfl, rfl⟩ ⟨Nat.le_of_ble_eq_true rfl, Nat.le_of_ble_eq_true rfl⟩ gX7_guess_X7_push hv_X7_push 0 gl_M_c0 rfl [0, 1, 2, 3, 4, 5, 6, 7, 8, 9, 10, 11, 12, 13, 14, 15, 16, 17, 18, 19, 20, 21, 22, 23] gl_M_self_at gl_M_self_nd gl_M_fst (by rw [es8]; exact gl_M_self_set) rfl rfl (Nat.le_of_ble_eq_true rfl) ⟨Nat.zero_le _, Nat.zero_le _⟩ dX7_guess_89 ?_
          refine gq_goto (tgt := 132) X dX7_guess_92 (by decide) ?_
          refine gq_aload_n X dX7_guess_132 2 rfl ?_
          refine gq_get (C := RX7) (T := TX7) (N := 34) X iX7_guess_X7 0 gl_M_c0 rfl 17 (by decide) fX7_guess_X7_17 rfl dX7_guess_133 ?_
          refine gq_iload_n X dX7_guess_136 1 rfl ?_
          refine gq_ald X 13 gl_M_c13 (by rw [ev1]; exact mv_rem8 hp) dX7_guess_137 ?_
          exact gq_iretf X dX7_guess_138 rfl rfl
        · refine gq_iload_n X dX7_guess_95 0 rfl ?_
          refine gq_bipush (v := 9) X dX7_guess_96 (by decide) ?_
          refine gq_ficmp_ne (tgt := 132) X dX7_guess_98 (by decide) (fun h98 => ?_) (fun h98 => ?_)
          · refine gq_aload_n X dX7_guess_101 2 rfl ?_
            refine gq_get (C := RX7) (T := TX7) (N := 34) X iX7_guess_X7 0 gl_M_c0 rfl 19 (by decide) fX7_guess_X7_19 rfl dX7_guess_102 ?_
            refine gq_fif_ne (tgt := 112) X dX7_guess_105 (by decide) (fun h105 => ?_) (fun h105 => ?_)
            · refine gq_iload_n X dX7_guess_108 3 rfl ?_
              refine gq_iconst (v := 1) X dX7_guess_109 gq_i1 ?_
              refine gq_iadd X dX7_guess_110 ?_
              exact gq_iretf X dX7_guess_111 rfl rfl
            · refine gq_aload_n X dX7_guess_112 2 rfl ?_
              refine gq_dup X dX7_guess_113 rfl ?_
              refine gq_get (C := RX7) (T := TX7) (N := 34) X iX7_guess_X7 0 gl_M_c0 rfl 19 (by decide) fX7_guess_X7_19 rfl dX7_guess_114 ?_
              refine gq_iconst (v := 1) X dX7_guess_117 gq_i1 ?_
              refine gq_isub X dX7_guess_118 ?_
              refine gq_letr (fun s9 es9 => ?_)
              refine gq_put (C := RX7) (T := TX7) (N := 34) (ws' := gw_M cA a s9) X iX7_guess_X7 tyX7 tyX7_ok nmX7 0 gl_M_c0 rfl 19 (by decide) fX7_guess_X7_19 rfl rfl rfl (Nat.le_of_ble_eq_true rfl) (by rw [es9]; exact gl_M_f19) dX7_guess_119 ?_
              refine gq_aload_n X dX7_guess_122 2 rfl ?_
              refine gq_get (C := RX7) (T := TX7) (N := 34) X iX7_guess_X7 0 gl_M_c0 rfl 18 (by decide) fX7_guess_X7_18 rfl dX7_guess_123 ?_
              refine gq_aload_n X dX7_guess_126 2 rfl ?_
              refine gq_get (C := RX7) (T := TX7) (N := 34) X iX7_guess_X7 0 gl_M_c0 rfl 19 (by decide) fX7_guess_X7_19 rfl dX7_guess_127 ?_
              refine gq_ald X 14 gl_M_c14 (by rw [es9]; exact mv_pred (by rw [es2]; exact hr) (by decide) h105) dX7_guess_130 ?_
              exact gq_iretf X dX7_guess_131 rfl rfl
          · refine gq_aload_n X dX7_guess_132 2 rfl ?_
            refine gq_get (C := RX7) (T := TX7) (N := 34) X iX7_guess_X7 0 gl_M_c0 rfl 17 (by decide) fX7_guess_X7_17 rfl dX7_guess_133 ?_
            refine gq_iload_n X dX7_guess_136 1 rfl ?_
            refine gq_ald X 13 gl_M_c13 (by rw [ev1]; exact mv_rem8 hp) dX7_guess_137 ?_
            exact gq_iretf X dX7_guess_138 rfl rfl
  · refine gq_iload_n X dX7_guess_15 2 rfl ?_
    refine gq_iconst (v := 1) X dX7_guess_16 gq_i1 ?_
    refine gq_iadd X dX7_guess_17 ?_
    exact gq_iretf X dX7_guess_18 rfl rfl
theorem mk_push (S : gs_M) (x : Int32) : mg_acts (k_X7_push S x) = mg_acts S ∧ mg_kinds (k_X7_push S x) = mg_kinds S ∧ mg_as (k_X7_push S x) = mg_as S ∧ mg_bs (k_X7_push S x) = mg_bs S ∧ mg_cs (k_X7_push S x) = mg_cs S ∧ mg_registers (k_X7_push S x) = mg_registers S ∧ mg_memory (k_X7_push S x) = mg_memory S ∧ mg_stack (k_X7_push S x) = mg_stack S ∧ mg_deep (k_X7_push S x) = mg_deep S ∧ mg_way (k_X7_push S x) = mg_way S ∧ mg_depth (k_X7_push S x) = mg_depth S ∧ mg_plain (k_X7_push S x) = mg_plain S ∧ mg_mixed (k_X7_push S x) = mg_mixed S ∧ mg_choice (k_X7_push S x) = mg_choice S ∧ mg_history (k_X7_push S x) = mg_history S ∧ mg_targetAt (k_X7_push S x) = mg_targetAt S ∧ mg_targetKind (k_X7_push S x) = mg_targetKind S ∧ mg_target (k_X7_push S x) = mg_target S ∧ mg_fetched (k_X7_push S x) = mg_fetched S ∧ mg_fetchAt (k_X7_push S x) = mg_fetchAt S ∧ mg_fetchCycle (k_X7_push S x) = mg_fetchCycle S ∧ mg_fetchGuess (k_X7_push S x) = mg_fetchGuess S ∧ mg_fetchHistory (k_X7_push S x) = mg_fetchHistory S ∧ mg_fetchReturned (k_X7_push S x) = mg_fetchReturned S ∧ mg_fetchReturns (k_X7_push S x) = mg_fetchReturns S ∧ mg_runs (k_X7_push S x) = mg_runs S ∧ mg_ended (k_X7_push S x) = mg_ended S ∧ mg_place (k_X7_push S x) = mg_place S ∧ mg_counts (k_X7_push S x) = mg_counts S ∧ mg_doneAt (k_X7_push S x) = mg_doneAt S ∧ mg_keptReturns (k_X7_push S x) = mg_keptReturns S ∧ mg_h (k_X7_push S x) = mg_h S := by
  unfold k_X7_push
  by_cases h : mg_returned S = 4
  · rw [if_pos h]
    simp only [gq_lt, mfr_returns, mfr_returned, and_self]
  · rw [if_neg h]
    simp only [gq_lt, mfr_returns, mfr_returned, and_self]
theorem mk_bit (S : gs_M) (b : Bool) : mg_acts (k_X7_bit S b) = mg_acts S ∧ mg_kinds (k_X7_bit S b) = mg_kinds S ∧ mg_as (k_X7_bit S b) = mg_as S ∧ mg_bs (k_X7_bit S b) = mg_bs S ∧ mg_cs (k_X7_bit S b) = mg_cs S ∧ mg_registers (k_X7_bit S b) = mg_registers S ∧ mg_memory (k_X7_bit S b) = mg_memory S ∧ mg_stack (k_X7_bit S b) = mg_stack S ∧ mg_deep (k_X7_bit S b) = mg_deep S ∧ mg_way (k_X7_bit S b) = mg_way S ∧ mg_depth (k_X7_bit S b) = mg_depth S ∧ mg_plain (k_X7_bit S b) = mg_plain S ∧ mg_mixed (k_X7_bit S b) = mg_mixed S ∧ mg_choice (k_X7_bit S b) = mg_choice S ∧ mg_targetAt (k_X7_bit S b) = mg_targetAt S ∧ mg_targetKind (k_X7_bit S b) = mg_targetKind S ∧ mg_target (k_X7_bit S b) = mg_target S ∧ mg_returns (k_X7_bit S b) = mg_returns S ∧ mg_returned (k_X7_bit S b) = mg_returned S ∧ mg_fetched (k_X7_bit S b) = mg_fetched S ∧ mg_fetchAt (k_X7_bit S b) = mg_fetchAt S ∧ mg_fetchCycle (k_X7_bit S b) = mg_fetchCycle S ∧ mg_fetchGuess (k_X7_bit S b) = mg_fetchGuess S ∧ mg_fetchHistory (k_X7_bit S b) = mg_fetchHistory S ∧ mg_fetchReturned (k_X7_bit S b) = mg_fetchReturned S ∧ mg_fetchReturns (k_X7_bit S b) = mg_fetchReturns S ∧ mg_runs (k_X7_bit S b) = mg_runs S ∧ mg_ended (k_X7_bit S b) = mg_ended S ∧ mg_place (k_X7_bit S b) = mg_place S ∧ mg_counts (k_X7_bit S b) = mg_counts S ∧ mg_doneAt (k_X7_bit S b) = mg_doneAt S ∧ mg_keptReturns (k_X7_bit S b) = mg_keptReturns S ∧ mg_h (k_X7_bit S b) = mg_h S := by
  unfold k_X7_bit
  cases b <;> simp only [gq_lt, mfr_history, and_self, if_true, Bool.false_eq_true, if_false]
theorem mk_guess (S : gs_M) (x : Int32) : mg_acts (k_X7_guess S x).2 = mg_acts S ∧ mg_kinds (k_X7_guess S x).2 = mg_kinds S ∧ mg_as (k_X7_guess S x).2 = mg_as S ∧ mg_bs (k_X7_guess S x).2 = mg_bs S ∧ mg_cs (k_X7_guess S x).2 = mg_cs S ∧ mg_registers (k_X7_guess S x).2 = mg_registers S ∧ mg_memory (k_X7_guess S x).2 = mg_memory S ∧ mg_stack (k_X7_guess S x).2 = mg_stack S ∧ mg_deep (k_X7_guess S x).2 = mg_deep S ∧ mg_way (k_X7_guess S x).2 = mg_way S ∧ mg_depth (k_X7_guess S x).2 = mg_depth S ∧ mg_plain (k_X7_guess S x).2 = mg_plain S ∧ mg_mixed (k_X7_guess S x).2 = mg_mixed S ∧ mg_choice (k_X7_guess S x).2 = mg_choice S ∧ mg_targetAt (k_X7_guess S x).2 = mg_targetAt S ∧ mg_targetKind (k_X7_guess S x).2 = mg_targetKind S ∧ mg_target (k_X7_guess S x).2 = mg_target S ∧ mg_fetched (k_X7_guess S x).2 = mg_fetched S ∧ mg_fetchAt (k_X7_guess S x).2 = mg_fetchAt S ∧ mg_fetchCycle (k_X7_guess S x).2 = mg_fetchCycle S ∧ mg_fetchGuess (k_X7_guess S x).2 = mg_fetchGuess S ∧ mg_fetchHistory (k_X7_guess S x).2 = mg_fetchHistory S ∧ mg_fetchReturned (k_X7_guess S x).2 = mg_fetchReturned S ∧ mg_fetchReturns (k_X7_guess S x).2 = mg_fetchReturns S ∧ mg_runs (k_X7_guess S x).2 = mg_runs S ∧ mg_ended (k_X7_guess S x).2 = mg_ended S ∧ mg_place (k_X7_guess S x).2 = mg_place S ∧ mg_doneAt (k_X7_guess S x).2 = mg_doneAt S ∧ mg_keptReturns (k_X7_guess S x).2 = mg_keptReturns S ∧ mg_h (k_X7_guess S x).2 = mg_h S := by
  unfold k_X7_guess
  simp only [gq_lt]
  split
  · have hb : ∀ (b : Bool) (v w : Int32) (T : gs_M), (if b = true then (v, k_X7_bit T b) else (w, k_X7_bit T b)).2 = k_X7_bit T b := by intro b v w T; cases b <;> rfl
    split
    · simp only [hb, mk_bit, mfr_counts, and_self]
    · split
      · simp only [hb, mk_bit, mfr_counts, and_self]
      · split
        · simp only [mk_push, mfr_counts, and_self]
        · split
          · split
            · simp only [mfr_counts, and_self]
            · simp only [mfr_counts, mfr_returned, and_self]
          · simp only [mfr_counts, and_self]
  · simp only [and_self]
theorem iX7_fetch_X7 : ∀ w ∈ u_ws RX7 TX7 34, w ∈ wsX7_fetch := by decide +kernel
theorem fX7_fetch_X7_0 : Cond.fieldLink RX7 100 (TX7 0).1 (TX7 0).2.1 (TX7 0).2.2.1 ∈ wsX7_fetch := by decide +kernel
theorem fX7_fetch_X7_14 : Cond.fieldLink RX7 89 (TX7 14).1 (TX7 14).2.1 (TX7 14).2.2.1 ∈ wsX7_fetch := by decide +kernel
theorem fX7_fetch_X7_18 : Cond.fieldLink RX7 53 (TX7 18).1 (TX7 18).2.1 (TX7 18).2.2.1 ∈ wsX7_fetch := by decide +kernel
theorem fX7_fetch_X7_19 : Cond.fieldLink RX7 120 (TX7 19).1 (TX7 19).2.1 (TX7 19).2.2.1 ∈ wsX7_fetch := by decide +kernel
theorem fX7_fetch_X7_20 : Cond.fieldLink RX7 117 (TX7 20).1 (TX7 20).2.1 (TX7 20).2.2.1 ∈ wsX7_fetch := by decide +kernel
theorem fX7_fetch_X7_21 : Cond.fieldLink RX7 56 (TX7 21).1 (TX7 21).2.1 (TX7 21).2.2.1 ∈ wsX7_fetch := by decide +kernel
theorem fX7_fetch_X7_22 : Cond.fieldLink RX7 59 (TX7 22).1 (TX7 22).2.1 (TX7 22).2.2.1 ∈ wsX7_fetch := by decide +kernel
theorem fX7_fetch_X7_23 : Cond.fieldLink RX7 62 (TX7 23).1 (TX7 23).2.1 (TX7 23).2.2.1 ∈ wsX7_fetch := by decide +kernel
theorem fX7_fetch_X7_24 : Cond.fieldLink RX7 65 (TX7 24).1 (TX7 24).2.1 (TX7 24).2.2.1 ∈ wsX7_fetch := by decide +kernel
theorem fX7_fetch_X7_25 : Cond.fieldLink RX7 68 (TX7 25).1 (TX7 25).2.1 (TX7 25).2.2.1 ∈ wsX7_fetch := by decide +kernel
theorem fX7_fetch_X7_26 : Cond.fieldLink RX7 71 (TX7 26).1 (TX7 26).2.1 (TX7 26).2.2.1 ∈ wsX7_fetch := by decide +kernel
theorem fX7_fetch_X7_29 : Cond.fieldLink RX7 123 (TX7 29).1 (TX7 29).2.1 (TX7 29).2.2.1 ∈ wsX7_fetch := by decide +kernel
theorem hv_X7_fetch : yX7_fetch.cls = RX7 ∧ yX7_fetch.cls ≠ "java/lang/invoke/MethodHandle" ∧ yX7_fetch.cls ≠ "java/lang/invoke/VarHandle" ∧ (parseMethodDescriptor yX7_fetch.desc).map (fun d => d.parameters.length) = some 1 := by decide +kernel
def k_X7_fetch (S : gs_M) (x1 : Int32) : gs_M :=
  if k_X7_in (mg_place S) 0 ((mg_acts S) - 1) = true then
    gq_lt (ms_fetchAt S (upd (mg_fetchAt S) (gq_ix (mg_fetched S)) (mg_place S))) (fun s1 =>
    gq_lt (ms_fetchCycle s1 (upd (mg_fetchCycle s1) (gq_ix (mg_fetched s1)) x1)) (fun s2 =>
    gq_lt (ms_fetchHistory s2 (upd (mg_fetchHistory s2) (gq_ix (mg_fetched s2)) (mg_history s2))) (fun s3 =>
    gq_lt (ms_fetchReturned s3 (upd (mg_fetchReturned s3) (gq_ix (mg_fetched s3)) (mg_returned s3))) (fun s4 =>
    gq_lt (ms_fetchReturns s4 (upd (mg_fetchReturns s4) (gq_ix ((4 * (mg_fetched s4)) + 0)) ((mg_returns s4) (gq_ix 0)))) (fun s5 =>
    gq_lt (ms_fetchReturns s5 (upd (mg_fetchReturns s5) (gq_ix ((4 * (mg_fetched s5)) + 1)) ((mg_returns s5) (gq_ix 1)))) (fun s6 =>
    gq_lt (ms_fetchReturns s6 (upd (mg_fetchReturns s6) (gq_ix ((4 * (mg_fetched s6)) + 2)) ((mg_returns s6) (gq_ix 2)))) (fun s7 =>
    gq_lt (ms_fetchReturns s7 (upd (mg_fetchReturns s7) (gq_ix ((4 * (mg_fetched s7)) + 3)) ((mg_returns s7) (gq_ix 3)))) (fun s8 =>
    gq_lt (k_X7_guess s8 (mg_place s8)) (fun r9 =>
    gq_lt (r9.2) (fun s10 =>
    gq_lt (ms_place s10 r9.1) (fun s11 =>
    gq_lt (ms_fetchGuess s11 (upd (mg_fetchGuess s11) (gq_ix (mg_fetched s11)) (mg_place s11))) (fun s12 =>
    gq_lt (ms_fetched s12 ((mg_fetched s12) + 1)) (fun s13 =>
    s13)))))))))))))
  else
    S
set_option maxHeartbeats 4000000 in
set_option maxRecDepth 100000 in
theorem c_X7_fetch (l : Launch) (D : va_G) (cA : ClassId) (a : Nat → Nat) (S : gs_M) (x1 : Int32) (hf : vp_in (mg_fetched S) 8) (ha : vp_in (mg_acts S) 61) (hh : vp_in (mg_history S) 16) (hr : vp_in (mg_returned S) 5) : gq_C l yX7_fetch wsX7_fetch ({ frames := 3, cells := 0, slots := 0, locals := 67 } : Room) D cA [.ref (a 0), .int x1] (gw_M cA a S) (none) (gw_M cA a (k_X7_fetch S x1)) := by
  refine gq_openf (own := RX7) (lv := [(0, .ref (a 0)), (1, .int x1)]) (fun r : gs_M => (none, gw_M cA a r)) (k_X7_fetch S x1) (by decide) rfl rfl (Nat.le_of_ble_eq_true rfl) rfl rfl rfl (fun p e s m args below meth c A X => ?_)
  unfold k_X7_fetch
  refine gq_aload_n X dX7_fetch_0 0 rfl ?_
  refine gq_get (C := RX7) (T := TX7) (N := 34) X iX7_fetch_X7 0 gl_M_c0 rfl 29 (by decide) fX7_fetch_X7_29 rfl dX7_fetch_1 ?_
  refine gq_iconst (v := 0) X dX7_fetch_4 gq_i0 ?_
  refine gq_aload_n X dX7_fetch_5 0 rfl ?_
  refine gq_get (C := RX7) (T := TX7) (N := 34) X iX7_fetch_X7 0 gl_M_c0 rfl 0 (by decide) fX7_fetch_X7_0 rfl dX7_fetch_6 ?_
  refine gq_iconst (v := 1) X dX7_fetch_9 gq_i1 ?_
  refine gq_isub X dX7_fetch_10 ?_
  refine gq_callSr (ws' := gw_M cA a S) X (c_X7_in l D cA (mg_place S) 0 ((mg_acts S) - 1)) rfl ⟨rfl, rfl⟩ ⟨Nat.le_of_ble_eq_true rfl, Nat.le_of_ble_eq_true rfl⟩ gX7_fetch_X7_in hd_X7_in [] rfl (by decide) rfl rfl rfl rfl (Nat.le_of_ble_eq_true rfl) ⟨Nat.zero_le _, Nat.zero_le _⟩ dX7_fetch_11 ?_
  refine gq_fbif_ne (tgt := 18) X dX7_fetch_14 (by decide) (fun h14 => ?_) (fun h14 => ?_)
  · refine gq_aload_n X dX7_fetch_18 0 rfl ?_
    refine gq_get (C := RX7) (T := TX7) (N := 34) X iX7_fetch_X7 0 gl_M_c0 rfl 21 (by decide) fX7_fetch_X7_21 rfl dX7_fetch_19 ?_
    refine gq_aload_n X dX7_fetch_22 0 rfl ?_
    refine gq_get (C := RX7) (T := TX7) (N := 34) X iX7_fetch_X7 0 gl_M_c0 rfl 20 (by decide) fX7_fetch_X7_20 rfl dX7_fetch_23 ?_
    refine gq_aload_n X dX7_fetch_26 0 rfl ?_
    refine gq_get (C := RX7) (T := TX7) (N := 34) X iX7_fetch_X7 0 gl_M_c0 rfl 29 (by decide) fX7_fetch_X7_29 rfl dX7_fetch_27 ?_
    refine gq_letr (fun s1 es1 => ?_)
    refine gq_ast (ws' := gw_M cA a s1) X 15 gl_M_c15 hf (by rw [es1]; exact gl_M_a15) dX7_fetch_30 ?_
    have ts1_mg_fetched : mg_fetched s1 = mg_fetched S := by rw [es1]; exact (mfr_fetchAt _ _).2.2.2.2.2.2.2.2.2.2.2.2.2.2.2.2.2.2.2.2.1.trans rfl
    have ts1_mg_history : mg_history s1 = mg_history S := by rw [es1]; exact (mfr_fetchAt _ _).2.2.2.2.2.2.2.2.2.2.2.2.2.2.1.trans rfl
    have ts1_mg_returned : mg_returned s1 = mg_returned S := by rw [es1]; exact (mfr_fetchAt _ _).2.2.2.2.2.2.2.2.2.2.2.2.2.2.2.2.2.2.2.1.trans rfl
    have ts1_mg_place : mg_place s1 = mg_place S := by rw [es1]; exact (mfr_fetchAt _ _).2.2.2.2.2.2.2.2.2.2.2.2.2.2.2.2.2.2.2.2.2.2.2.2.2.2.2.2.2.1.trans rfl
    refine gq_aload_n X dX7_fetch_31 0 rfl ?_
    refine gq_get (C := RX7) (T := TX7) (N := 34) X iX7_fetch_X7 0 gl_M_c0 rfl 22 (by decide) fX7_fetch_X7_22 rfl dX7_fetch_32 ?_
    refine gq_aload_n X dX7_fetch_35 0 rfl ?_
    refine gq_get (C := RX7) (T := TX7) (N := 34) X iX7_fetch_X7 0 gl_M_c0 rfl 20 (by decide) fX7_fetch_X7_20 rfl dX7_fetch_36 ?_
    refine gq_iload_n X dX7_fetch_39 1 rfl ?_
    refine gq_letr (fun s2 es2 => ?_)
    refine gq_ast (ws' := gw_M cA a s2) X 16 gl_M_c16 (by rw [ts1_mg_fetched]; exact hf) (by rw [es2]; exact gl_M_a16) dX7_fetch_40 ?_
    have ts2_mg_fetched : mg_fetched s2 = mg_fetched S := by rw [es2]; exact (mfr_fetchCycle _ _).2.2.2.2.2.2.2.2.2.2.2.2.2.2.2.2.2.2.2.2.1.trans ts1_mg_fetched
    have ts2_mg_history : mg_history s2 = mg_history S := by rw [es2]; exact (mfr_fetchCycle _ _).2.2.2.2.2.2.2.2.2.2.2.2.2.2.1.trans ts1_mg_history
    have ts2_mg_returned : mg_returned s2 = mg_returned S := by rw [es2]; exact (mfr_fetchCycle _ _).2.2.2.2.2.2.2.2.2.2.2.2.2.2.2.2.2.2.2.1.trans ts1_mg_returned
    have ts2_mg_place : mg_place s2 = mg_place S := by rw [es2]; exact (mfr_fetchCycle _ _).2.2.2.2.2.2.2.2.2.2.2.2.2.2.2.2.2.2.2.2.2.2.2.2.2.2.2.2.2.1.trans ts1_mg_place
    refine gq_aload_n X dX7_fetch_41 0 rfl ?_
    refine gq_get (C := RX7) (T := TX7) (N := 34) X iX7_fetch_X7 0 gl_M_c0 rfl 24 (by decide) fX7_fetch_X7_24 rfl dX7_fetch_42 ?_
    refine gq_aload_n X dX7_fetch_45 0 rfl ?_
    refine gq_get (C := RX7) (T := TX7) (N := 34) X iX7_fetch_X7 0 gl_M_c0 rfl 20 (by decide) fX7_fetch_X7_20 rfl dX7_fetch_46 ?_
    refine gq_aload_n X dX7_fetch_49 0 rfl ?_
    refine gq_get (C := RX7) (T := TX7) (N := 34) X iX7_fetch_X7 0 gl_M_c0 rfl 14 (by decide) fX7_fetch_X7_14 rfl dX7_fetch_50 ?_
    refine gq_letr (fun s3 es3 => ?_)
    refine gq_ast (ws' := gw_M cA a s3) X 18 gl_M_c18 (by rw [ts2_mg_fetched]; exact hf) (by rw [es3]; exact gl_M_a18) dX7_fetch_53 ?_
    have ts3_mg_fetched : mg_fetched s3 = mg_fetched S := by rw [es3]; exact (mfr_fetchHistory _ _).2.2.2.2.2.2.2.2.2.2.2.2.2.2.2.2.2.2.2.2.1.trans ts2_mg_fetched
    have ts3_mg_history : mg_history s3 = mg_history S := by rw [es3]; exact (mfr_fetchHistory _ _).2.2.2.2.2.2.2.2.2.2.2.2.2.2.1.trans ts2_mg_history
    have ts3_mg_returned : mg_returned s3 = mg_returned S := by rw [es3]; exact (mfr_fetchHistory _ _).2.2.2.2.2.2.2.2.2.2.2.2.2.2.2.2.2.2.2.1.trans ts2_mg_returned
    have ts3_mg_place : mg_place s3 = mg_place S := by rw [es3]; exact (mfr_fetchHistory _ _).2.2.2.2.2.2.2.2.2.2.2.2.2.2.2.2.2.2.2.2.2.2.2.2.2.2.2.2.2.1.trans ts2_mg_place
    refine gq_aload_n X dX7_fetch_54 0 rfl ?_
    refine gq_get (C := RX7) (T := TX7) (N := 34) X iX7_fetch_X7 0 gl_M_c0 rfl 25 (by decide) fX7_fetch_X7_25 rfl dX7_fetch_55 ?_
    refine gq_aload_n X dX7_fetch_58 0 rfl ?_
    refine gq_get (C := RX7) (T := TX7) (N := 34) X iX7_fetch_X7 0 gl_M_c0 rfl 20 (by decide) fX7_fetch_X7_20 rfl dX7_fetch_59 ?_
    refine gq_aload_n X dX7_fetch_62 0 rfl ?_
    refine gq_get (C := RX7) (T := TX7) (N := 34) X iX7_fetch_X7 0 gl_M_c0 rfl 19 (by decide) fX7_fetch_X7_19 rfl dX7_fetch_63 ?_
    refine gq_letr (fun s4 es4 => ?_)
    refine gq_ast (ws' := gw_M cA a s4) X 19 gl_M_c19 (by rw [ts3_mg_fetched]; exact hf) (by rw [es4]; exact gl_M_a19) dX7_fetch_66 ?_
    have ts4_mg_fetched : mg_fetched s4 = mg_fetched S := by rw [es4]; exact (mfr_fetchReturned _ _).2.2.2.2.2.2.2.2.2.2.2.2.2.2.2.2.2.2.2.2.1.trans ts3_mg_fetched
    have ts4_mg_history : mg_history s4 = mg_history S := by rw [es4]; exact (mfr_fetchReturned _ _).2.2.2.2.2.2.2.2.2.2.2.2.2.2.1.trans ts3_mg_history
    have ts4_mg_returned : mg_returned s4 = mg_returned S := by rw [es4]; exact (mfr_fetchReturned _ _).2.2.2.2.2.2.2.2.2.2.2.2.2.2.2.2.2.2.2.1.trans ts3_mg_returned
    have ts4_mg_place : mg_place s4 = mg_place S := by rw [es4]; exact (mfr_fetchReturned _ _).2.2.2.2.2.2.2.2.2.2.2.2.2.2.2.2.2.2.2.2.2.2.2.2.2.2.2.2.2.1.trans ts3_mg_place
    refine gq_iconst (v := 0) X dX7_fetch_67 gq_i0 ?_
    refine gq_istore_n (lv' := [(2, .int 0), (0, .ref (a 0)), (1, .int x1)]) X dX7_fetch_68 (by decide) rfl ?_
    refine gq_iload_n X dX7_fetch_69 0 rfl ?_
    refine gq_iconst (v := 4) X dX7_fetch_70 gq_i4 ?_
    refine gq_icmp_ge (tgt := 99) X dX7_fetch_71 (by decide) (fun h => absurd h (by decide)) (fun _ => ?_)
    refine gq_aload_n X dX7_fetch_74 1 rfl ?_
    refine gq_get (C := RX7) (T := TX7) (N := 34) X iX7_fetch_X7 0 gl_M_c0 rfl 26 (by decide) fX7_fetch_X7_26 rfl dX7_fetch_75 ?_
    refine gq_iconst (v := 4) X dX7_fetch_78 gq_i4 ?_
    refine gq_aload_n X dX7_fetch_79 1 rfl ?_
    refine gq_get (C := RX7) (T := TX7) (N := 34) X iX7_fetch_X7 0 gl_M_c0 rfl 20 (by decide) fX7_fetch_X7_20 rfl dX7_fetch_80 ?_
    refine gq_imul X dX7_fetch_83 ?_
    refine gq_iload_n X dX7_fetch_84 0 rfl ?_
    refine gq_iadd X dX7_fetch_85 ?_
    refine gq_aload_n X dX7_fetch_86 1 rfl ?_
    refine gq_get (C := RX7) (T := TX7) (N := 34) X iX7_fetch_X7 0 gl_M_c0 rfl 18 (by decide) fX7_fetch_X7_18 rfl dX7_fetch_87 ?_
    refine gq_iload_n X dX7_fetch_90 0 rfl ?_
    refine gq_ald X 14 gl_M_c14 (by unfold vp_in; decide) dX7_fetch_91 ?_
    refine gq_letr (fun s5 es5 => ?_)
    refine gq_ast (ws' := gw_M cA a s5) X 20 gl_M_c20 (by rw [ts4_mg_fetched]; exact (mv_4 hf).1) (by rw [es5]; exact gl_M_a20) dX7_fetch_92 ?_
    have ts5_mg_fetched : mg_fetched s5 = mg_fetched S := by rw [es5]; exact (mfr_fetchReturns _ _).2.2.2.2.2.2.2.2.2.2.2.2.2.2.2.2.2.2.2.2.1.trans ts4_mg_fetched
    have ts5_mg_history : mg_history s5 = mg_history S := by rw [es5]; exact (mfr_fetchReturns _ _).2.2.2.2.2.2.2.2.2.2.2.2.2.2.1.trans ts4_mg_history
    have ts5_mg_returned : mg_returned s5 = mg_returned S := by rw [es5]; exact (mfr_fetchReturns _ _).2.2.2.2.2.2.2.2.2.2.2.2.2.2.2.2.2.2.2.1.trans ts4_mg_returned
    have ts5_mg_place : mg_place s5 = mg_place S := by rw [es5]; exact (mfr_fetchReturns _ _).2.2.2.2.2.2.2.2.2.2.2.2.2.2.2.2.2.2.2.2.2.2.2.2.2.2.2.2.2.1.trans ts4_mg_place
    refine gq_iinc (lv' := [(2, .int 1), (0, .ref (a 0)), (1, .int x1)]) X dX7_fetch_93 0 rfl (by decide) (by decide) rfl ?_
    refine gq_goto (tgt := 69) X dX7_fetch_96 (by decide) ?_
    refine gq_iload_n X dX7_fetch_69 0 rfl ?_
    refine gq_iconst (v := 4) X dX7_fetch_70 gq_i4 ?_
    refine gq_icmp_ge (tgt := 99) X dX7_fetch_71 (by decide) (fun h => absurd h (by decide)) (fun _ => ?_)
    refine gq_aload_n X dX7_fetch_74 1 rfl ?_
    refine gq_get (C := RX7) (T := TX7) (N := 34) X iX7_fetch_X7 0 gl_M_c0 rfl 26 (by decide) fX7_fetch_X7_26 rfl dX7_fetch_75 ?_
    refine gq_iconst (v := 4) X dX7_fetch_78 gq_i4 ?_
    refine gq_aload_n X dX7_fetch_79 1 rfl ?_
    refine gq_get (C := RX7) (T := TX7) (N := 34) X iX7_fetch_X7 0 gl_M_c0 rfl 20 (by decide) fX7_fetch_X7_20 rfl dX7_fetch_80 ?_
    refine gq_imul X dX7_fetch_83 ?_
    refine gq_iload_n X dX7_fetch_84 0 rfl ?_
    refine gq_iadd X dX7_fetch_85 ?_
    refine gq_aload_n X dX7_fetch_86 1 rfl ?_
    refine gq_get (C := RX7) (T := TX7) (N := 34) X iX7_fetch_X7 0 gl_M_c0 rfl 18 (by decide) fX7_fetch_X7_18 rfl dX7_fetch_87 ?_
    refine gq_iload_n X dX7_fetch_90 0 rfl ?_
    refine gq_ald X 14 gl_M_c14 (by unfold vp_in; decide) dX7_fetch_91 ?_
    refine gq_letr (fun s6 es6 => ?_)
    refine gq_ast (ws' := gw_M cA a s6) X 20 gl_M_c20 (by rw [ts5_mg_fetched]; exact (mv_4 hf).2.1) (by rw [es6]; exact gl_M_a20) dX7_fetch_92 ?_
    have ts6_mg_fetched : mg_fetched s6 = mg_fetched S := by rw [es6]; exact (mfr_fetchReturns _ _).2.2.2.2.2.2.2.2.2.2.2.2.2.2.2.2.2.2.2.2.1.trans ts5_mg_fetched
    have ts6_mg_history : mg_history s6 = mg_history S := by rw [es6]; exact (mfr_fetchReturns _ _).2.2.2.2.2.2.2.2.2.2.2.2.2.2.1.trans ts5_mg_history
    have ts6_mg_returned : mg_returned s6 = mg_returned S := by rw [es6]; exact (mfr_fetchReturns _ _).2.2.2.2.2.2.2.2.2.2.2.2.2.2.2.2.2.2.2.1.trans ts5_mg_returned
    have ts6_mg_place : mg_place s6 = mg_place S := by rw [es6]; exact (mfr_fetchReturns _ _).2.2.2.2.2.2.2.2.2.2.2.2.2.2.2.2.2.2.2.2.2.2.2.2.2.2.2.2.2.1.trans ts5_mg_place
    refine gq_iinc (lv' := [(2, .int 2), (0, .ref (a 0)), (1, .int x1)]) X dX7_fetch_93 0 rfl (by decide) (by decide) rfl ?_
    refine gq_goto (tgt := 69) X dX7_fetch_96 (by decide) ?_
    refine gq_iload_n X dX7_fetch_69 0 rfl ?_
    refine gq_iconst (v := 4) X dX7_fetch_70 gq_i4 ?_
    refine gq_icmp_ge (tgt := 99) X dX7_fetch_71 (by decide) (fun h => absurd h (by decide)) (fun _ => ?_)
    refine gq_aload_n X dX7_fetch_74 1 rfl ?_
    refine gq_get (C := RX7) (T := TX7) (N := 34) X iX7_fetch_X7 0 gl_M_c0 rfl 26 (by decide) fX7_fetch_X7_26 rfl dX7_fetch_75 ?_
    refine gq_iconst (v := 4) X dX7_fetch_78 gq_i4 ?_
    refine gq_aload_n X dX7_fetch_79 1 rfl ?_
    refine gq_get (C := RX7) (T := TX7) (N := 34) X iX7_fetch_X7 0 gl_M_c0 rfl 20 (by decide) fX7_fetch_X7_20 rfl dX7_fetch_80 ?_
    refine gq_imul X dX7_fetch_83 ?_
    refine gq_iload_n X dX7_fetch_84 0 rfl ?_
    refine gq_iadd X dX7_fetch_85 ?_
    refine gq_aload_n X dX7_fetch_86 1 rfl ?_
    refine gq_get (C := RX7) (T := TX7) (N := 34) X iX7_fetch_X7 0 gl_M_c0 rfl 18 (by decide) fX7_fetch_X7_18 rfl dX7_fetch_87 ?_
    refine gq_iload_n X dX7_fetch_90 0 rfl ?_
    refine gq_ald X 14 gl_M_c14 (by unfold vp_in; decide) dX7_fetch_91 ?_
    refine gq_letr (fun s7 es7 => ?_)
    refine gq_ast (ws' := gw_M cA a s7) X 20 gl_M_c20 (by rw [ts6_mg_fetched]; exact (mv_4 hf).2.2.1) (by rw [es7]; exact gl_M_a20) dX7_fetch_92 ?_
    have ts7_mg_fetched : mg_fetched s7 = mg_fetched S := by rw [es7]; exact (mfr_fetchReturns _ _).2.2.2.2.2.2.2.2.2.2.2.2.2.2.2.2.2.2.2.2.1.trans ts6_mg_fetched
    have ts7_mg_history : mg_history s7 = mg_history S := by rw [es7]; exact (mfr_fetchReturns _ _).2.2.2.2.2.2.2.2.2.2.2.2.2.2.1.trans ts6_mg_history
    have ts7_mg_returned : mg_returned s7 = mg_returned S := by rw [es7]; exact (mfr_fetchReturns _ _).2.2.2.2.2.2.2.2.2.2.2.2.2.2.2.2.2.2.2.1.trans ts6_mg_returned
    have ts7_mg_place : mg_place s7 = mg_place S := by rw [es7]; exact (mfr_fetchReturns _ _).2.2.2.2.2.2.2.2.2.2.2.2.2.2.2.2.2.2.2.2.2.2.2.2.2.2.2.2.2.1.trans ts6_mg_place
    refine gq_iinc (lv' := [(2, .int 3), (0, .ref (a 0)), (1, .int x1)]) X dX7_fetch_93 0 rfl (by decide) (by decide) rfl ?_
    refine gq_goto (tgt := 69) X dX7_fetch_96 (by decide) ?_
    refine gq_iload_n X dX7_fetch_69 0 rfl ?_
    refine gq_iconst (v := 4) X dX7_fetch_70 gq_i4 ?_
    refine gq_icmp_ge (tgt := 99) X dX7_fetch_71 (by decide) (fun h => absurd h (by decide)) (fun _ => ?_)
    refine gq_aload_n X dX7_fetch_74 1 rfl ?_
    refine gq_get (C := RX7) (T := TX7) (N := 34) X iX7_fetch_X7 0 gl_M_c0 rfl 26 (by decide) fX7_fetch_X7_26 rfl dX7_fetch_75 ?_
    refine gq_iconst (v := 4) X dX7_fetch_78 gq_i4 ?_
    refine gq_aload_n X dX7_fetch_79 1 rfl ?_
    refine gq_get (C := RX7) (T := TX7) (N := 34) X iX7_fetch_X7 0 gl_M_c0 rfl 20 (by decide) fX7_fetch_X7_20 rfl dX7_fetch_80 ?_
    refine gq_imul X dX7_fetch_83 ?_
    refine gq_iload_n X dX7_fetch_84 0 rfl ?_
    refine gq_iadd X dX7_fetch_85 ?_
    refine gq_aload_n X dX7_fetch_86 1 rfl ?_
    refine gq_get (C := RX7) (T := TX7) (N := 34) X iX7_fetch_X7 0 gl_M_c0 rfl 18 (by decide) fX7_fetch_X7_18 rfl dX7_fetch_87 ?_
    refine gq_iload_n X dX7_fetch_90 0 rfl ?_
    refine gq_ald X 14 gl_M_c14 (by unfold vp_in; decide) dX7_fetch_91 ?_
    refine gq_letr (fun s8 es8 => ?_)
    refine gq_ast (ws' := gw_M cA a s8) X 20 gl_M_c20 (by rw [ts7_mg_fetched]; exact (mv_4 hf).2.2.2) (by rw [es8]; exact gl_M_a20) dX7_fetch_92 ?_
    have ts8_mg_fetched : mg_fetched s8 = mg_fetched S := by rw [es8]; exact (mfr_fetchReturns _ _).2.2.2.2.2.2.2.2.2.2.2.2.2.2.2.2.2.2.2.2.1.trans ts7_mg_fetched
    have ts8_mg_history : mg_history s8 = mg_history S := by rw [es8]; exact (mfr_fetchReturns _ _).2.2.2.2.2.2.2.2.2.2.2.2.2.2.1.trans ts7_mg_history
    have ts8_mg_returned : mg_returned s8 = mg_returned S := by rw [es8]; exact (mfr_fetchReturns _ _).2.2.2.2.2.2.2.2.2.2.2.2.2.2.2.2.2.2.2.1.trans ts7_mg_returned
    have ts8_mg_place : mg_place s8 = mg_place S := by rw [es8]; exact (mfr_fetchReturns _ _).2.2.2.2.2.2.2.2.2.2.2.2.2.2.2.2.2.2.2.2.2.2.2.2.2.2.2.2.2.1.trans ts7_mg_place
    refine gq_iinc (lv' := [(2, .int 4), (0, .ref (a 0)), (1, .int x1)]) X dX7_fetch_93 0 rfl (by decide) (by decide) rfl ?_
    refine gq_goto (tgt := 69) X dX7_fetch_96 (by decide) ?_
    refine gq_iload_n X dX7_fetch_69 0 rfl ?_
    refine gq_iconst (v := 4) X dX7_fetch_70 gq_i4 ?_
    refine gq_icmp_ge (tgt := 99) X dX7_fetch_71 (by decide) (fun _ => ?_) (fun h => absurd (by decide) h)
    refine gq_aload_n X dX7_fetch_99 1 rfl ?_
    refine gq_aload_n X dX7_fetch_100 1 rfl ?_
    refine gq_aload_n X dX7_fetch_101 1 rfl ?_
    refine gq_get (C := RX7) (T := TX7) (N := 34) X iX7_fetch_X7 0 gl_M_c0 rfl 29 (by decide) fX7_fetch_X7_29 rfl dX7_fetch_102 ?_
    refine gq_letr (fun r9 er9 => ?_)
    refine gq_letr (fun s10 es10 => ?_)
    refine gq_callVr (ws' := gw_M cA a s10) X (gq_Ceq (res2 := some (Value.int r9.1)) (w2 := gw_M cA a r9.2) (c_X7_guess l D cA a s8 (mg_place s8) (by rw [ts8_mg_place]; exact mv_inL h14 ha (by decide)) (by rw [ts8_mg_history]; exact hh) (by rw [ts8_mg_returned]; exact hr)) (by rw [er9]) (by rw [er9])) rfl ⟨rfl, rfl⟩ ⟨Nat.le_of_ble_eq_true rfl, Nat.le_of_ble_eq_true rfl⟩ gX7_fetch_X7_guess hv_X7_guess 0 gl_M_c0 rfl [0, 1, 2, 3, 4, 5, 6, 7, 8, 9, 10, 11, 12, 13, 14, 15, 16, 17, 18, 19, 20, 21, 22, 23] gl_M_self_at gl_M_self_nd gl_M_fst (by rw [es10]; exact gl_M_self_set) rfl rfl (Nat.le_of_ble_eq_true rfl) ⟨Nat.zero_le _, Nat.zero_le _⟩ dX7_fetch_105 ?_
    have ts10_mg_fetched : mg_fetched s10 = mg_fetched S := by rw [es10, er9]; exact ((mk_guess _ _).2.2.2.2.2.2.2.2.2.2.2.2.2.2.2.2.2.1).trans ts8_mg_fetched
    have ts10_mg_place : mg_place s10 = mg_place S := by rw [es10, er9]; exact ((mk_guess _ _).2.2.2.2.2.2.2.2.2.2.2.2.2.2.2.2.2.2.2.2.2.2.2.2.2.2.1).trans ts8_mg_place
    refine gq_letr (fun s11 es11 => ?_)
    refine gq_put (C := RX7) (T := TX7) (N := 34) (ws' := gw_M cA a s11) X iX7_fetch_X7 tyX7 tyX7_ok nmX7 0 gl_M_c0 rfl 29 (by decide) fX7_fetch_X7_29 rfl rfl rfl (Nat.le_of_ble_eq_true rfl) (by rw [es11]; exact gl_M_f29) dX7_fetch_108 ?_
    have ts11_mg_fetched : mg_fetched s11 = mg_fetched S := by rw [es11]; exact (mfr_place _ _).2.2.2.2.2.2.2.2.2.2.2.2.2.2.2.2.2.2.2.2.1.trans ts10_mg_fetched
    refine gq_aload_n X dX7_fetch_111 1 rfl ?_
    refine gq_get (C := RX7) (T := TX7) (N := 34) X iX7_fetch_X7 0 gl_M_c0 rfl 23 (by decide) fX7_fetch_X7_23 rfl dX7_fetch_112 ?_
    refine gq_aload_n X dX7_fetch_115 1 rfl ?_
    refine gq_get (C := RX7) (T := TX7) (N := 34) X iX7_fetch_X7 0 gl_M_c0 rfl 20 (by decide) fX7_fetch_X7_20 rfl dX7_fetch_116 ?_
    refine gq_aload_n X dX7_fetch_119 1 rfl ?_
    refine gq_get (C := RX7) (T := TX7) (N := 34) X iX7_fetch_X7 0 gl_M_c0 rfl 29 (by decide) fX7_fetch_X7_29 rfl dX7_fetch_120 ?_
    refine gq_letr (fun s12 es12 => ?_)
    refine gq_ast (ws' := gw_M cA a s12) X 17 gl_M_c17 (by rw [ts11_mg_fetched]; exact hf) (by rw [es12]; exact gl_M_a17) dX7_fetch_123 ?_
    have ts12_mg_fetched : mg_fetched s12 = mg_fetched S := by rw [es12]; exact (mfr_fetchGuess _ _).2.2.2.2.2.2.2.2.2.2.2.2.2.2.2.2.2.2.2.2.1.trans ts11_mg_fetched
    refine gq_aload_n X dX7_fetch_124 1 rfl ?_
    refine gq_dup X dX7_fetch_125 rfl ?_
    refine gq_get (C := RX7) (T := TX7) (N := 34) X iX7_fetch_X7 0 gl_M_c0 rfl 20 (by decide) fX7_fetch_X7_20 rfl dX7_fetch_126 ?_
    refine gq_iconst (v := 1) X dX7_fetch_129 gq_i1 ?_
    refine gq_iadd X dX7_fetch_130 ?_
    refine gq_letr (fun s13 es13 => ?_)
    refine gq_put (C := RX7) (T := TX7) (N := 34) (ws' := gw_M cA a s13) X iX7_fetch_X7 tyX7 tyX7_ok nmX7 0 gl_M_c0 rfl 20 (by decide) fX7_fetch_X7_20 rfl rfl rfl (Nat.le_of_ble_eq_true rfl) (by rw [es13]; exact gl_M_f20) dX7_fetch_131 ?_
    exact gq_vretf X dX7_fetch_134 rfl rfl
  · exact gq_vretf X dX7_fetch_17 rfl rfl
theorem iX7_does_X7 : ∀ w ∈ u_ws RX7 TX7 34, w ∈ wsX7_does := by decide +kernel
theorem fX7_does_X7_0 : Cond.fieldLink RX7 100 (TX7 0).1 (TX7 0).2.1 (TX7 0).2.2.1 ∈ wsX7_does := by decide +kernel
theorem fX7_does_X7_1 : Cond.fieldLink RX7 7 (TX7 1).1 (TX7 1).2.1 (TX7 1).2.2.1 ∈ wsX7_does := by decide +kernel
theorem fX7_does_X7_2 : Cond.fieldLink RX7 13 (TX7 2).1 (TX7 2).2.1 (TX7 2).2.2.1 ∈ wsX7_does := by decide +kernel
theorem fX7_does_X7_3 : Cond.fieldLink RX7 16 (TX7 3).1 (TX7 3).2.1 (TX7 3).2.2.1 ∈ wsX7_does := by decide +kernel
theorem fX7_does_X7_4 : Cond.fieldLink RX7 19 (TX7 4).1 (TX7 4).2.1 (TX7 4).2.2.1 ∈ wsX7_does := by decide +kernel
theorem fX7_does_X7_5 : Cond.fieldLink RX7 22 (TX7 5).1 (TX7 5).2.1 (TX7 5).2.2.1 ∈ wsX7_does := by decide +kernel
theorem fX7_does_X7_6 : Cond.fieldLink RX7 25 (TX7 6).1 (TX7 6).2.1 (TX7 6).2.2.1 ∈ wsX7_does := by decide +kernel
theorem fX7_does_X7_7 : Cond.fieldLink RX7 28 (TX7 7).1 (TX7 7).2.1 (TX7 7).2.2.1 ∈ wsX7_does := by decide +kernel
theorem fX7_does_X7_8 : Cond.fieldLink RX7 114 (TX7 8).1 (TX7 8).2.1 (TX7 8).2.2.1 ∈ wsX7_does := by decide +kernel
theorem kX7_does_146 : Cond.constant RX7 146 2147483647 ∈ wsX7_does := by decide +kernel
theorem hv_X7_does : yX7_does.cls = RX7 ∧ yX7_does.cls ≠ "java/lang/invoke/MethodHandle" ∧ yX7_does.cls ≠ "java/lang/invoke/VarHandle" ∧ (parseMethodDescriptor yX7_does.desc).map (fun d => d.parameters.length) = some 1 := by decide +kernel
def k_X7_does (S : gs_M) (x1 : Int32) : Int32 × gs_M :=
  gq_lt ((mg_as S) (gq_ix x1)) (fun v1 =>
  gq_lt ((mg_bs S) (gq_ix x1)) (fun v2 =>
  gq_lt (x1 + 1) (fun v3 =>
  if (mg_kinds S) (gq_ix x1) = 0 then
    gq_lt (ms_registers S (upd (mg_registers S) (gq_ix v1) ((mg_cs S) (gq_ix x1)))) (fun s4 =>
    (v3, s4))
  else
    if (mg_kinds S) (gq_ix x1) = 1 then
      gq_lt (ms_registers S (upd (mg_registers S) (gq_ix v1) (((mg_registers S) (gq_ix v1)) + ((mg_registers S) (gq_ix v2))))) (fun s5 =>
      (v3, s5))
    else
      if (mg_kinds S) (gq_ix x1) = 2 then
        gq_lt (ms_registers S (upd (mg_registers S) (gq_ix v1) (((mg_registers S) (gq_ix v1)) - ((mg_registers S) (gq_ix v2))))) (fun s6 =>
        (v3, s6))
      else
        if (mg_kinds S) (gq_ix x1) = 3 then
          gq_lt (ms_registers S (upd (mg_registers S) (gq_ix v1) ((mg_memory S) (gq_ix (((mg_registers S) (gq_ix v2)) &&& 15))))) (fun s7 =>
          (v3, s7))
        else
          if (mg_kinds S) (gq_ix x1) = 4 then
            gq_lt (ms_memory S (upd (mg_memory S) (gq_ix (((mg_registers S) (gq_ix v2)) &&& 15)) ((mg_registers S) (gq_ix v1)))) (fun s8 =>
            (v3, s8))
          else
            if (mg_kinds S) (gq_ix x1) = 5 then
              if (mg_registers S) (gq_ix v2) ≤ (mg_registers S) (gq_ix v1) then
                (v3, S)
              else
                gq_lt ((mg_cs S) (gq_ix x1)) (fun v9 =>
                (v9, S))
            else
              if (mg_kinds S) (gq_ix x1) = 6 then
                if (mg_registers S) (gq_ix v1) = (mg_registers S) (gq_ix v2) then
                  gq_lt ((mg_cs S) (gq_ix x1)) (fun v10 =>
                  (v10, S))
                else
                  (v3, S)
              else
                if (mg_kinds S) (gq_ix x1) = 7 then
                  gq_lt ((mg_cs S) (gq_ix x1)) (fun v11 =>
                  (v11, S))
                else
                  if (mg_kinds S) (gq_ix x1) = 8 then
                    if mg_deep S = 16 then
                      ((-1), S)
                    else
                      gq_lt (ms_stack S (upd (mg_stack S) (gq_ix (mg_deep S)) v3)) (fun s12 =>
                      gq_lt (ms_deep s12 ((mg_deep s12) + 1)) (fun s13 =>
                      gq_lt ((mg_cs s13) (gq_ix x1)) (fun v14 =>
                      (v14, s13))))
                  else
                    if (mg_kinds S) (gq_ix x1) = 9 then
                      if mg_deep S = 0 then
                        ((-1), S)
                      else
                        gq_lt (ms_deep S ((mg_deep S) - 1)) (fun s15 =>
                        gq_lt ((mg_stack s15) (gq_ix (mg_deep s15))) (fun v16 =>
                        (v16, s15)))
                    else
                      if (mg_kinds S) (gq_ix x1) = 10 then
                        gq_lt (gq_rem (((mg_registers S) (gq_ix v1)) &&& 2147483647) (mg_acts S)) (fun v17 =>
                        (v17, S))
                      else
                        (v3, S))))
set_option maxHeartbeats 4000000 in
set_option maxRecDepth 100000 in
theorem c_X7_does (l : Launch) (D : va_G) (cA : ClassId) (a : Nat → Nat) (S : gs_M) (x1 : Int32) (hp : vp_in x1 60) (has : ∀ j, j < 60 → vp_in (mg_as S j) 8) (hbs : ∀ j, j < 60 → vp_in (mg_bs S j) 8) (hd : vp_in (mg_deep S) 17) (hn : ¬ mg_acts S = 0) : gq_C l yX7_does wsX7_does ({ frames := 0, cells := 0, slots := 0, locals := 0 } : Room) D cA [.ref (a 0), .int x1] (gw_M cA a S) (some (.int (k_X7_does S x1).1)) (gw_M cA a ((k_X7_does S x1).2)) := by
  refine gq_openf (own := RX7) (lv := [(0, .ref (a 0)), (1, .int x1)]) (fun r : Int32 × gs_M => (some (.int r.1), gw_M cA a r.2)) (k_X7_does S x1) (by decide) rfl rfl (Nat.le_of_ble_eq_true rfl) rfl rfl rfl (fun p e s m args below meth c A X => ?_)
  unfold k_X7_does
  refine gq_aload_n X dX7_does_0 0 rfl ?_
  refine gq_get (C := RX7) (T := TX7) (N := 34) X iX7_does_X7 0 gl_M_c0 rfl 2 (by decide) fX7_does_X7_2 rfl dX7_does_1 ?_
  refine gq_iload_n X dX7_does_4 1 rfl ?_
  refine gq_ald X 2 gl_M_c2 hp dX7_does_5 ?_
  refine gq_letr (fun v1 ev1 => ?_)
  refine gq_eqst (st' := .int v1 :: _) (by rw [ev1]) ?_
  refine gq_istore_n (lv' := [(2, .int v1), (0, .ref (a 0)), (1, .int x1)]) X dX7_does_6 (by decide) rfl ?_
  refine gq_aload_n X dX7_does_7 1 rfl ?_
  refine gq_get (C := RX7) (T := TX7) (N := 34) X iX7_does_X7 0 gl_M_c0 rfl 3 (by decide) fX7_does_X7_3 rfl dX7_does_8 ?_
  refine gq_iload_n X dX7_does_11 2 rfl ?_
  refine gq_ald X 3 gl_M_c3 hp dX7_does_12 ?_
  refine gq_letr (fun v2 ev2 => ?_)
  refine gq_eqst (st' := .int v2 :: _) (by rw [ev2]) ?_
  refine gq_istore_n (lv' := [(3, .int v2), (2, .int v1), (0, .ref (a 0)), (1, .int x1)]) X dX7_does_13 (by decide) rfl ?_
  refine gq_iload_n X dX7_does_14 3 rfl ?_
  refine gq_iconst (v := 1) X dX7_does_15 gq_i1 ?_
  refine gq_iadd X dX7_does_16 ?_
  refine gq_letr (fun v3 ev3 => ?_)
  refine gq_eqst (st' := .int v3 :: _) (by rw [ev3]) ?_
  refine gq_istore (lv' := [(4, .int v3), (3, .int v2), (2, .int v1), (0, .ref (a 0)), (1, .int x1)]) X dX7_does_17 (by decide) rfl ?_
  refine gq_aload_n X dX7_does_19 3 rfl ?_
  refine gq_get (C := RX7) (T := TX7) (N := 34) X iX7_does_X7 0 gl_M_c0 rfl 1 (by decide) fX7_does_X7_1 rfl dX7_does_20 ?_
  refine gq_iload_n X dX7_does_23 4 rfl ?_
  refine gq_ald X 1 gl_M_c1 hp dX7_does_24 ?_
  refine gq_ite (fun h25_0 => ?_) (fun h25_0 => ?_)
  · refine gq_tin (k := 0) (off := 59) (tgt := 84) X dX7_does_25 h25_0 (by decide) (by decide) (by decide) (by decide) ?_
    refine gq_aload_n X dX7_does_84 3 rfl ?_
    refine gq_get (C := RX7) (T := TX7) (N := 34) X iX7_does_X7 0 gl_M_c0 rfl 5 (by decide) fX7_does_X7_5 rfl dX7_does_85 ?_
    refine gq_iload_n X dX7_does_88 2 rfl ?_
    refine gq_aload_n X dX7_does_89 3 rfl ?_
    refine gq_get (C := RX7) (T := TX7) (N := 34) X iX7_does_X7 0 gl_M_c0 rfl 4 (by decide) fX7_does_X7_4 rfl dX7_does_90 ?_
    refine gq_iload_n X dX7_does_93 4 rfl ?_
    refine gq_ald X 4 gl_M_c4 hp dX7_does_94 ?_
    refine gq_letr (fun s4 es4 => ?_)
    refine gq_ast (ws' := gw_M cA a s4) X 5 gl_M_c5 (by rw [ev1]; exact has _ (mv_ix hp)) (by rw [es4]; exact gl_M_a5) dX7_does_95 ?_
    refine gq_goto (tgt := 357) X dX7_does_96 (by decide) ?_
    refine gq_iload X dX7_does_357 0 rfl ?_
    exact gq_iretf X dX7_does_359 rfl rfl
  · refine gq_ite (fun h25_1 => ?_) (fun h25_1 => ?_)
    · refine gq_tin (k := 1) (off := 74) (tgt := 99) X dX7_does_25 h25_1 (by decide) (by decide) (by decide) (by decide) ?_
      refine gq_aload_n X dX7_does_99 3 rfl ?_
      refine gq_get (C := RX7) (T := TX7) (N := 34) X iX7_does_X7 0 gl_M_c0 rfl 5 (by decide) fX7_does_X7_5 rfl dX7_does_100 ?_
      refine gq_iload_n X dX7_does_103 2 rfl ?_
      refine gq_aload_n X dX7_does_104 3 rfl ?_
      refine gq_get (C := RX7) (T := TX7) (N := 34) X iX7_does_X7 0 gl_M_c0 rfl 5 (by decide) fX7_does_X7_5 rfl dX7_does_105 ?_
      refine gq_iload_n X dX7_does_108 2 rfl ?_
      refine gq_ald X 5 gl_M_c5 (by rw [ev1]; exact has _ (mv_ix hp)) dX7_does_109 ?_
      refine gq_aload_n X dX7_does_110 3 rfl ?_
      refine gq_get (C := RX7) (T := TX7) (N := 34) X iX7_does_X7 0 gl_M_c0 rfl 5 (by decide) fX7_does_X7_5 rfl dX7_does_111 ?_
      refine gq_iload_n X dX7_does_114 1 rfl ?_
      refine gq_ald X 5 gl_M_c5 (by rw [ev2]; exact hbs _ (mv_ix hp)) dX7_does_115 ?_
      refine gq_iadd X dX7_does_116 ?_
      refine gq_letr (fun s5 es5 => ?_)
      refine gq_ast (ws' := gw_M cA a s5) X 5 gl_M_c5 (by rw [ev1]; exact has _ (mv_ix hp)) (by rw [es5]; exact gl_M_a5) dX7_does_117 ?_
      refine gq_goto (tgt := 357) X dX7_does_118 (by decide) ?_
      refine gq_iload X dX7_does_357 0 rfl ?_
      exact gq_iretf X dX7_does_359 rfl rfl
    · refine gq_ite (fun h25_2 => ?_) (fun h25_2 => ?_)
      · refine gq_tin (k := 2) (off := 96) (tgt := 121) X dX7_does_25 h25_2 (by decide) (by decide) (by decide) (by decide) ?_
        refine gq_aload_n X dX7_does_121 3 rfl ?_
        refine gq_get (C := RX7) (T := TX7) (N := 34) X iX7_does_X7 0 gl_M_c0 rfl 5 (by decide) fX7_does_X7_5 rfl dX7_does_122 ?_
        refine gq_iload_n X dX7_does_125 2 rfl ?_
        refine gq_aload_n X dX7_does_126 3 rfl ?_
        refine gq_get (C := RX7) (T := TX7) (N := 34) X iX7_does_X7 0 gl_M_c0 rfl 5 (by decide) fX7_does_X7_5 rfl dX7_does_127 ?_
        refine gq_iload_n X dX7_does_130 2 rfl ?_
        refine gq_ald X 5 gl_M_c5 (by rw [ev1]; exact has _ (mv_ix hp)) dX7_does_131 ?_
        refine gq_aload_n X dX7_does_132 3 rfl ?_
        refine gq_get (C := RX7) (T := TX7) (N := 34) X iX7_does_X7 0 gl_M_c0 rfl 5 (by decide) fX7_does_X7_5 rfl dX7_does_133 ?_
        refine gq_iload_n X dX7_does_136 1 rfl ?_
        refine gq_ald X 5 gl_M_c5 (by rw [ev2]; exact hbs _ (mv_ix hp)) dX7_does_137 ?_
        refine gq_isub X dX7_does_138 ?_
        refine gq_letr (fun s6 es6 => ?_)
        refine gq_ast (ws' := gw_M cA a s6) X 5 gl_M_c5 (by rw [ev1]; exact has _ (mv_ix hp)) (by rw [es6]; exact gl_M_a5) dX7_does_139 ?_
        refine gq_goto (tgt := 357) X dX7_does_140 (by decide) ?_
        refine gq_iload X dX7_does_357 0 rfl ?_
        exact gq_iretf X dX7_does_359 rfl rfl
      · refine gq_ite (fun h25_3 => ?_) (fun h25_3 => ?_)
        · refine gq_tin (k := 3) (off := 118) (tgt := 143) X dX7_does_25 h25_3 (by decide) (by decide) (by decide) (by decide) ?_
          refine gq_aload_n X dX7_does_143 3 rfl ?_
          refine gq_get (C := RX7) (T := TX7) (N := 34) X iX7_does_X7 0 gl_M_c0 rfl 5 (by decide) fX7_does_X7_5 rfl dX7_does_144 ?_
          refine gq_iload_n X dX7_does_147 2 rfl ?_
          refine gq_aload_n X dX7_does_148 3 rfl ?_
          refine gq_get (C := RX7) (T := TX7) (N := 34) X iX7_does_X7 0 gl_M_c0 rfl 6 (by decide) fX7_does_X7_6 rfl dX7_does_149 ?_
          refine gq_aload_n X dX7_does_152 3 rfl ?_
          refine gq_get (C := RX7) (T := TX7) (N := 34) X iX7_does_X7 0 gl_M_c0 rfl 5 (by decide) fX7_does_X7_5 rfl dX7_does_153 ?_
          refine gq_iload_n X dX7_does_156 1 rfl ?_
          refine gq_ald X 5 gl_M_c5 (by rw [ev2]; exact hbs _ (mv_ix hp)) dX7_does_157 ?_
          refine gq_bipush (v := 15) X dX7_does_158 (by decide) ?_
          refine gq_iand X dX7_does_160 ?_
          refine gq_ald X 6 gl_M_c6 (mv_and15 _) dX7_does_161 ?_
          refine gq_letr (fun s7 es7 => ?_)
          refine gq_ast (ws' := gw_M cA a s7) X 5 gl_M_c5 (by rw [ev1]; exact has _ (mv_ix hp)) (by rw [es7]; exact gl_M_a5) dX7_does_162 ?_
          refine gq_goto (tgt := 357) X dX7_does_163 (by decide) ?_
          refine gq_iload X dX7_does_357 0 rfl ?_
          exact gq_iretf X dX7_does_359 rfl rfl
        · refine gq_ite (fun h25_4 => ?_) (fun h25_4 => ?_)
          · refine gq_tin (k := 4) (off := 141) (tgt := 166) X dX7_does_25 h25_4 (by decide) (by decide) (by decide) (by decide) ?_
            refine gq_aload_n X dX7_does_166 3 rfl ?_
            refine gq_get (C := RX7) (T := TX7) (N := 34) X iX7_does_X7 0 gl_M_c0 rfl 6 (by decide) fX7_does_X7_6 rfl dX7_does_167 ?_
            refine gq_aload_n X dX7_does_170 3 rfl ?_
            refine gq_get (C := RX7) (T := TX7) (N := 34) X iX7_does_X7 0 gl_M_c0 rfl 5 (by decide) fX7_does_X7_5 rfl dX7_does_171 ?_
            refine gq_iload_n X dX7_does_174 1 rfl ?_
            refine gq_ald X 5 gl_M_c5 (by rw [ev2]; exact hbs _ (mv_ix hp)) dX7_does_175 ?_
            refine gq_bipush (v := 15) X dX7_does_176 (by decide) ?_
            refine gq_iand X dX7_does_178 ?_
            refine gq_aload_n X dX7_does_179 3 rfl ?_
            refine gq_get (C := RX7) (T := TX7) (N := 34) X iX7_does_X7 0 gl_M_c0 rfl 5 (by decide) fX7_does_X7_5 rfl dX7_does_180 ?_
            refine gq_iload_n X dX7_does_183 2 rfl ?_
            refine gq_ald X 5 gl_M_c5 (by rw [ev1]; exact has _ (mv_ix hp)) dX7_does_184 ?_
            refine gq_letr (fun s8 es8 => ?_)
            refine gq_ast (ws' := gw_M cA a s8) X 6 gl_M_c6 (mv_and15 _) (by rw [es8]; exact gl_M_a6) dX7_does_185 ?_
            refine gq_goto (tgt := 357) X dX7_does_186 (by decide) ?_
            refine gq_iload X dX7_does_357 0 rfl ?_
            exact gq_iretf X dX7_does_359 rfl rfl
          · refine gq_ite (fun h25_5 => ?_) (fun h25_5 => ?_)
            · refine gq_tin (k := 5) (off := 164) (tgt := 189) X dX7_does_25 h25_5 (by decide) (by decide) (by decide) (by decide) ?_
              refine gq_aload_n X dX7_does_189 3 rfl ?_
              refine gq_get (C := RX7) (T := TX7) (N := 34) X iX7_does_X7 0 gl_M_c0 rfl 5 (by decide) fX7_does_X7_5 rfl dX7_does_190 ?_
              refine gq_iload_n X dX7_does_193 2 rfl ?_
              refine gq_ald X 5 gl_M_c5 (by rw [ev1]; exact has _ (mv_ix hp)) dX7_does_194 ?_
              refine gq_aload_n X dX7_does_195 3 rfl ?_
              refine gq_get (C := RX7) (T := TX7) (N := 34) X iX7_does_X7 0 gl_M_c0 rfl 5 (by decide) fX7_does_X7_5 rfl dX7_does_196 ?_
              refine gq_iload_n X dX7_does_199 1 rfl ?_
              refine gq_ald X 5 gl_M_c5 (by rw [ev2]; exact hbs _ (mv_ix hp)) dX7_does_200 ?_
              refine gq_ficmp_ge (tgt := 213) X dX7_does_201 (by decide) (fun h201 => ?_) (fun h201 => ?_)
              · refine gq_iload X dX7_does_213 0 rfl ?_
                refine gq_istore (lv' := [(4, .int v3), (3, .int v2), (2, .int v1), (0, .ref (a 0)), (1, .int x1)]) X dX7_does_215 (by decide) rfl ?_
                refine gq_goto (tgt := 357) X dX7_does_217 (by decide) ?_
                refine gq_iload X dX7_does_357 0 rfl ?_
                exact gq_iretf X dX7_does_359 rfl rfl
              · refine gq_aload_n X dX7_does_204 3 rfl ?_
                refine gq_get (C := RX7) (T := TX7) (N := 34) X iX7_does_X7 0 gl_M_c0 rfl 4 (by decide) fX7_does_X7_4 rfl dX7_does_205 ?_
                refine gq_iload_n X dX7_does_208 4 rfl ?_
                refine gq_ald X 4 gl_M_c4 hp dX7_does_209 ?_
                refine gq_goto (tgt := 215) X dX7_does_210 (by decide) ?_
                refine gq_letr (fun v9 ev9 => ?_)
                refine gq_eqst (st' := .int v9 :: _) (by rw [ev9]) ?_
                refine gq_istore (lv' := [(4, .int v9), (3, .int v2), (2, .int v1), (0, .ref (a 0)), (1, .int x1)]) X dX7_does_215 (by decide) rfl ?_
                refine gq_goto (tgt := 357) X dX7_does_217 (by decide) ?_
                refine gq_iload X dX7_does_357 0 rfl ?_
                exact gq_iretf X dX7_does_359 rfl rfl
            · refine gq_ite (fun h25_6 => ?_) (fun h25_6 => ?_)
              · refine gq_tin (k := 6) (off := 195) (tgt := 220) X dX7_does_25 h25_6 (by decide) (by decide) (by decide) (by decide) ?_
                refine gq_aload_n X dX7_does_220 3 rfl ?_
                refine gq_get (C := RX7) (T := TX7) (N := 34) X iX7_does_X7 0 gl_M_c0 rfl 5 (by decide) fX7_does_X7_5 rfl dX7_does_221 ?_
                refine gq_iload_n X dX7_does_224 2 rfl ?_
                refine gq_ald X 5 gl_M_c5 (by rw [ev1]; exact has _ (mv_ix hp)) dX7_does_225 ?_
                refine gq_aload_n X dX7_does_226 3 rfl ?_
                refine gq_get (C := RX7) (T := TX7) (N := 34) X iX7_does_X7 0 gl_M_c0 rfl 5 (by decide) fX7_does_X7_5 rfl dX7_does_227 ?_
                refine gq_iload_n X dX7_does_230 1 rfl ?_
                refine gq_ald X 5 gl_M_c5 (by rw [ev2]; exact hbs _ (mv_ix hp)) dX7_does_231 ?_
                refine gq_ficmp_ne (tgt := 244) X dX7_does_232 (by decide) (fun h232 => ?_) (fun h232 => ?_)
                · refine gq_aload_n X dX7_does_235 3 rfl ?_
                  refine gq_get (C := RX7) (T := TX7) (N := 34) X iX7_does_X7 0 gl_M_c0 rfl 4 (by decide) fX7_does_X7_4 rfl dX7_does_236 ?_
                  refine gq_iload_n X dX7_does_239 4 rfl ?_
                  refine gq_ald X 4 gl_M_c4 hp dX7_does_240 ?_
                  refine gq_goto (tgt := 246) X dX7_does_241 (by decide) ?_
                  refine gq_letr (fun v10 ev10 => ?_)
                  refine gq_eqst (st' := .int v10 :: _) (by rw [ev10]) ?_
                  refine gq_istore (lv' := [(4, .int v10), (3, .int v2), (2, .int v1), (0, .ref (a 0)), (1, .int x1)]) X dX7_does_246 (by decide) rfl ?_
                  refine gq_goto (tgt := 357) X dX7_does_248 (by decide) ?_
                  refine gq_iload X dX7_does_357 0 rfl ?_
                  exact gq_iretf X dX7_does_359 rfl rfl
                · refine gq_iload X dX7_does_244 0 rfl ?_
                  refine gq_istore (lv' := [(4, .int v3), (3, .int v2), (2, .int v1), (0, .ref (a 0)), (1, .int x1)]) X dX7_does_246 (by decide) rfl ?_
                  refine gq_goto (tgt := 357) X dX7_does_248 (by decide) ?_
                  refine gq_iload X dX7_does_357 0 rfl ?_
                  exact gq_iretf X dX7_does_359 rfl rfl
              · refine gq_ite (fun h25_7 => ?_) (fun h25_7 => ?_)
                · refine gq_tin (k := 7) (off := 226) (tgt := 251) X dX7_does_25 h25_7 (by decide) (by decide) (by decide) (by decide) ?_
                  refine gq_aload_n X dX7_does_251 3 rfl ?_
                  refine gq_get (C := RX7) (T := TX7) (N := 34) X iX7_does_X7 0 gl_M_c0 rfl 4 (by decide) fX7_does_X7_4 rfl dX7_does_252 ?_
                  refine gq_iload_n X dX7_does_255 4 rfl ?_
                  refine gq_ald X 4 gl_M_c4 hp dX7_does_256 ?_
                  refine gq_letr (fun v11 ev11 => ?_)
                  refine gq_eqst (st' := .int v11 :: _) (by rw [ev11]) ?_
                  refine gq_istore (lv' := [(4, .int v11), (3, .int v2), (2, .int v1), (0, .ref (a 0)), (1, .int x1)]) X dX7_does_257 (by decide) rfl ?_
                  refine gq_goto (tgt := 357) X dX7_does_259 (by decide) ?_
                  refine gq_iload X dX7_does_357 0 rfl ?_
                  exact gq_iretf X dX7_does_359 rfl rfl
                · refine gq_ite (fun h25_8 => ?_) (fun h25_8 => ?_)
                  · refine gq_tin (k := 8) (off := 237) (tgt := 262) X dX7_does_25 h25_8 (by decide) (by decide) (by decide) (by decide) ?_
                    refine gq_aload_n X dX7_does_262 3 rfl ?_
                    refine gq_get (C := RX7) (T := TX7) (N := 34) X iX7_does_X7 0 gl_M_c0 rfl 8 (by decide) fX7_does_X7_8 rfl dX7_does_263 ?_
                    refine gq_bipush (v := 16) X dX7_does_266 (by decide) ?_
                    refine gq_ficmp_ne (tgt := 273) X dX7_does_268 (by decide) (fun h268 => ?_) (fun h268 => ?_)
                    · refine gq_iconst (v := (-1)) X dX7_does_271 gq_im1 ?_
                      exact gq_iretf X dX7_does_272 rfl rfl
                    · refine gq_aload_n X dX7_does_273 3 rfl ?_
                      refine gq_get (C := RX7) (T := TX7) (N := 34) X iX7_does_X7 0 gl_M_c0 rfl 7 (by decide) fX7_does_X7_7 rfl dX7_does_274 ?_
                      refine gq_aload_n X dX7_does_277 3 rfl ?_
                      refine gq_get (C := RX7) (T := TX7) (N := 34) X iX7_does_X7 0 gl_M_c0 rfl 8 (by decide) fX7_does_X7_8 rfl dX7_does_278 ?_
                      refine gq_iload X dX7_does_281 0 rfl ?_
                      refine gq_letr (fun s12 es12 => ?_)
                      refine gq_ast (ws' := gw_M cA a s12) X 7 gl_M_c7 (mv_ne (by decide) hd (by decide) h268) (by rw [es12]; exact gl_M_a7) dX7_does_283 ?_
                      refine gq_aload_n X dX7_does_284 3 rfl ?_
                      refine gq_dup X dX7_does_285 rfl ?_
                      refine gq_get (C := RX7) (T := TX7) (N := 34) X iX7_does_X7 0 gl_M_c0 rfl 8 (by decide) fX7_does_X7_8 rfl dX7_does_286 ?_
                      refine gq_iconst (v := 1) X dX7_does_289 gq_i1 ?_
                      refine gq_iadd X dX7_does_290 ?_
                      refine gq_letr (fun s13 es13 => ?_)
                      refine gq_put (C := RX7) (T := TX7) (N := 34) (ws' := gw_M cA a s13) X iX7_does_X7 tyX7 tyX7_ok nmX7 0 gl_M_c0 rfl 8 (by decide) fX7_does_X7_8 rfl rfl rfl (Nat.le_of_ble_eq_true rfl) (by rw [es13]; exact gl_M_f8) dX7_does_291 ?_
                      refine gq_aload_n X dX7_does_294 3 rfl ?_
                      refine gq_get (C := RX7) (T := TX7) (N := 34) X iX7_does_X7 0 gl_M_c0 rfl 4 (by decide) fX7_does_X7_4 rfl dX7_does_295 ?_
                      refine gq_iload_n X dX7_does_298 4 rfl ?_
                      refine gq_ald X 4 gl_M_c4 hp dX7_does_299 ?_
                      refine gq_letr (fun v14 ev14 => ?_)
                      refine gq_eqst (st' := .int v14 :: _) (by rw [ev14]) ?_
                      refine gq_istore (lv' := [(4, .int v14), (3, .int v2), (2, .int v1), (0, .ref (a 0)), (1, .int x1)]) X dX7_does_300 (by decide) rfl ?_
                      refine gq_goto (tgt := 357) X dX7_does_302 (by decide) ?_
                      refine gq_iload X dX7_does_357 0 rfl ?_
                      exact gq_iretf X dX7_does_359 rfl rfl
                  · refine gq_ite (fun h25_9 => ?_) (fun h25_9 => ?_)
                    · refine gq_tin (k := 9) (off := 280) (tgt := 305) X dX7_does_25 h25_9 (by decide) (by decide) (by decide) (by decide) ?_
                      refine gq_aload_n X dX7_does_305 3 rfl ?_
                      refine gq_get (C := RX7) (T := TX7) (N := 34) X iX7_does_X7 0 gl_M_c0 rfl 8 (by decide) fX7_does_X7_8 rfl dX7_does_306 ?_
                      refine gq_fif_ne (tgt := 314) X dX7_does_309 (by decide) (fun h309 => ?_) (fun h309 => ?_)
                      · refine gq_iconst (v := (-1)) X dX7_does_312 gq_im1 ?_
                        exact gq_iretf X dX7_does_313 rfl rfl
                      · refine gq_aload_n X dX7_does_314 3 rfl ?_
                        refine gq_dup X dX7_does_315 rfl ?_
                        refine gq_get (C := RX7) (T := TX7) (N := 34) X iX7_does_X7 0 gl_M_c0 rfl 8 (by decide) fX7_does_X7_8 rfl dX7_does_316 ?_
                        refine gq_iconst (v := 1) X dX7_does_319 gq_i1 ?_
                        refine gq_isub X dX7_does_320 ?_
                        refine gq_letr (fun s15 es15 => ?_)
                        refine gq_put (C := RX7) (T := TX7) (N := 34) (ws' := gw_M cA a s15) X iX7_does_X7 tyX7 tyX7_ok nmX7 0 gl_M_c0 rfl 8 (by decide) fX7_does_X7_8 rfl rfl rfl (Nat.le_of_ble_eq_true rfl) (by rw [es15]; exact gl_M_f8) dX7_does_321 ?_
                        refine gq_aload_n X dX7_does_324 3 rfl ?_
                        refine gq_get (C := RX7) (T := TX7) (N := 34) X iX7_does_X7 0 gl_M_c0 rfl 7 (by decide) fX7_does_X7_7 rfl dX7_does_325 ?_
                        refine gq_aload_n X dX7_does_328 3 rfl ?_
                        refine gq_get (C := RX7) (T := TX7) (N := 34) X iX7_does_X7 0 gl_M_c0 rfl 8 (by decide) fX7_does_X7_8 rfl dX7_does_329 ?_
                        refine gq_ald X 7 gl_M_c7 (by rw [es15]; exact mv_pred hd (by decide) h309) dX7_does_332 ?_
                        refine gq_letr (fun v16 ev16 => ?_)
                        refine gq_eqst (st' := .int v16 :: _) (by rw [ev16]) ?_
                        refine gq_istore (lv' := [(4, .int v16), (3, .int v2), (2, .int v1), (0, .ref (a 0)), (1, .int x1)]) X dX7_does_333 (by decide) rfl ?_
                        refine gq_goto (tgt := 357) X dX7_does_335 (by decide) ?_
                        refine gq_iload X dX7_does_357 0 rfl ?_
                        exact gq_iretf X dX7_does_359 rfl rfl
                    · refine gq_ite (fun h25_10 => ?_) (fun h25_10 => ?_)
                      · refine gq_tin (k := 10) (off := 313) (tgt := 338) X dX7_does_25 h25_10 (by decide) (by decide) (by decide) (by decide) ?_
                        refine gq_aload_n X dX7_does_338 3 rfl ?_
                        refine gq_get (C := RX7) (T := TX7) (N := 34) X iX7_does_X7 0 gl_M_c0 rfl 5 (by decide) fX7_does_X7_5 rfl dX7_does_339 ?_
                        refine gq_iload_n X dX7_does_342 2 rfl ?_
                        refine gq_ald X 5 gl_M_c5 (by rw [ev1]; exact has _ (mv_ix hp)) dX7_does_343 ?_
                        refine gq_ldc (v := 2147483647) X kX7_does_146 dX7_does_344 ?_
                        refine gq_iand X dX7_does_346 ?_
                        refine gq_aload_n X dX7_does_347 3 rfl ?_
                        refine gq_get (C := RX7) (T := TX7) (N := 34) X iX7_does_X7 0 gl_M_c0 rfl 0 (by decide) fX7_does_X7_0 rfl dX7_does_348 ?_
                        refine gq_irem X dX7_does_351 hn ?_
                        refine gq_letr (fun v17 ev17 => ?_)
                        refine gq_eqst (st' := .int v17 :: _) (by rw [ev17]) ?_
                        refine gq_istore (lv' := [(4, .int v17), (3, .int v2), (2, .int v1), (0, .ref (a 0)), (1, .int x1)]) X dX7_does_352 (by decide) rfl ?_
                        refine gq_goto (tgt := 357) X dX7_does_354 (by decide) ?_
                        refine gq_iload X dX7_does_357 0 rfl ?_
                        exact gq_iretf X dX7_does_359 rfl rfl
                      · refine gq_tout (tgt := 357) X dX7_does_25 (by have q0 := lv_neT h25_0 (show (0 : Int32).toInt = 0 by decide); have q1 := lv_neT h25_1 (show (1 : Int32).toInt = 1 by decide); have q2 := lv_neT h25_2 (show (2 : Int32).toInt = 2 by decide); have q3 := lv_neT h25_3 (show (3 : Int32).toInt = 3 by decide); have q4 := lv_neT h25_4 (show (4 : Int32).toInt = 4 by decide); have q5 := lv_neT h25_5 (show (5 : Int32).toInt = 5 by decide); have q6 := lv_neT h25_6 (show (6 : Int32).toInt = 6 by decide); have q7 := lv_neT h25_7 (show (7 : Int32).toInt = 7 by decide); have q8 := lv_neT h25_8 (show (8 : Int32).toInt = 8 by decide); have q9 := lv_neT h25_9 (show (9 : Int32).toInt = 9 by decide); have q10 := lv_neT h25_10 (show (10 : Int32).toInt = 10 by decide); omega) (by decide) ?_
                        refine gq_iload X dX7_does_357 0 rfl ?_
                        exact gq_iretf X dX7_does_359 rfl rfl
theorem iX7_turned_X7 : ∀ w ∈ u_ws RX7 TX7 34, w ∈ wsX7_turned := by decide +kernel
theorem fX7_turned_X7_1 : Cond.fieldLink RX7 7 (TX7 1).1 (TX7 1).2.1 (TX7 1).2.2.1 ∈ wsX7_turned := by decide +kernel
theorem fX7_turned_X7_2 : Cond.fieldLink RX7 13 (TX7 2).1 (TX7 2).2.1 (TX7 2).2.2.1 ∈ wsX7_turned := by decide +kernel
theorem fX7_turned_X7_3 : Cond.fieldLink RX7 16 (TX7 3).1 (TX7 3).2.1 (TX7 3).2.2.1 ∈ wsX7_turned := by decide +kernel
theorem fX7_turned_X7_5 : Cond.fieldLink RX7 22 (TX7 5).1 (TX7 5).2.1 (TX7 5).2.2.1 ∈ wsX7_turned := by decide +kernel
theorem hv_X7_turned : yX7_turned.cls = RX7 ∧ yX7_turned.cls ≠ "java/lang/invoke/MethodHandle" ∧ yX7_turned.cls ≠ "java/lang/invoke/VarHandle" ∧ (parseMethodDescriptor yX7_turned.desc).map (fun d => d.parameters.length) = some 1 := by decide +kernel
def k_X7_turned (S : gs_M) (x1 : Int32) : Bool :=
  if (mg_kinds S) (gq_ix x1) = 5 then
    if (mg_registers S) (gq_ix ((mg_bs S) (gq_ix x1))) ≤ (mg_registers S) (gq_ix ((mg_as S) (gq_ix x1))) then
      false
    else
      true
  else
    if (mg_kinds S) (gq_ix x1) = 6 then
      if (mg_registers S) (gq_ix ((mg_as S) (gq_ix x1))) = (mg_registers S) (gq_ix ((mg_bs S) (gq_ix x1))) then
        true
      else
        false
    else
      true
set_option maxHeartbeats 4000000 in
set_option maxRecDepth 100000 in
theorem c_X7_turned (l : Launch) (D : va_G) (cA : ClassId) (a : Nat → Nat) (S : gs_M) (x1 : Int32) (hp : vp_in x1 60) (has : ∀ j, j < 60 → vp_in (mg_as S j) 8) (hbs : ∀ j, j < 60 → vp_in (mg_bs S j) 8) : gq_C l yX7_turned wsX7_turned ({ frames := 0, cells := 0, slots := 0, locals := 0 } : Room) D cA [.ref (a 0), .int x1] (gw_M cA a S) (some (.int (gq_b (k_X7_turned S x1)))) (gw_M cA a S) := by
  refine gq_openf (own := RX7) (lv := [(0, .ref (a 0)), (1, .int x1)]) (fun r : Bool => (some (.int (gq_b r)), gw_M cA a S)) (k_X7_turned S x1) (by decide) rfl rfl (Nat.le_of_ble_eq_true rfl) rfl rfl rfl (fun p e s m args below meth c A X => ?_)
  unfold k_X7_turned
  refine gq_aload_n X dX7_turned_0 0 rfl ?_
  refine gq_get (C := RX7) (T := TX7) (N := 34) X iX7_turned_X7 0 gl_M_c0 rfl 1 (by decide) fX7_turned_X7_1 rfl dX7_turned_1 ?_
  refine gq_iload_n X dX7_turned_4 1 rfl ?_
  refine gq_ald X 1 gl_M_c1 hp dX7_turned_5 ?_
  refine gq_iconst (v := 5) X dX7_turned_6 gq_i5 ?_
  refine gq_ficmp_ne (tgt := 43) X dX7_turned_7 (by decide) (fun h7 => ?_) (fun h7 => ?_)
  · refine gq_aload_n X dX7_turned_10 0 rfl ?_
    refine gq_get (C := RX7) (T := TX7) (N := 34) X iX7_turned_X7 0 gl_M_c0 rfl 5 (by decide) fX7_turned_X7_5 rfl dX7_turned_11 ?_
    refine gq_aload_n X dX7_turned_14 0 rfl ?_
    refine gq_get (C := RX7) (T := TX7) (N := 34) X iX7_turned_X7 0 gl_M_c0 rfl 2 (by decide) fX7_turned_X7_2 rfl dX7_turned_15 ?_
    refine gq_iload_n X dX7_turned_18 1 rfl ?_
    refine gq_ald X 2 gl_M_c2 hp dX7_turned_19 ?_
    refine gq_ald X 5 gl_M_c5 (has _ (mv_ix hp)) dX7_turned_20 ?_
    refine gq_aload_n X dX7_turned_21 0 rfl ?_
    refine gq_get (C := RX7) (T := TX7) (N := 34) X iX7_turned_X7 0 gl_M_c0 rfl 5 (by decide) fX7_turned_X7_5 rfl dX7_turned_22 ?_
    refine gq_aload_n X dX7_turned_25 0 rfl ?_
    refine gq_get (C := RX7) (T := TX7) (N := 34) X iX7_turned_X7 0 gl_M_c0 rfl 3 (by decide) fX7_turned_X7_3 rfl dX7_turned_26 ?_
    refine gq_iload_n X dX7_turned_29 1 rfl ?_
    refine gq_ald X 3 gl_M_c3 hp dX7_turned_30 ?_
    refine gq_ald X 5 gl_M_c5 (hbs _ (mv_ix hp)) dX7_turned_31 ?_
    refine gq_ficmp_ge (tgt := 39) X dX7_turned_32 (by decide) (fun h32 => ?_) (fun h32 => ?_)
    · refine gq_iconst (v := 0) X dX7_turned_39 gq_i0 ?_
      refine gq_goto (tgt := 84) X dX7_turned_40 (by decide) ?_
      exact gq_zretf (b := false) X dX7_turned_84 rfl rfl rfl
    · refine gq_iconst (v := 1) X dX7_turned_35 gq_i1 ?_
      refine gq_goto (tgt := 84) X dX7_turned_36 (by decide) ?_
      exact gq_zretf (b := true) X dX7_turned_84 rfl rfl rfl
  · refine gq_aload_n X dX7_turned_43 0 rfl ?_
    refine gq_get (C := RX7) (T := TX7) (N := 34) X iX7_turned_X7 0 gl_M_c0 rfl 1 (by decide) fX7_turned_X7_1 rfl dX7_turned_44 ?_
    refine gq_iload_n X dX7_turned_47 1 rfl ?_
    refine gq_ald X 1 gl_M_c1 hp dX7_turned_48 ?_
    refine gq_bipush (v := 6) X dX7_turned_49 (by decide) ?_
    refine gq_ficmp_ne (tgt := 79) X dX7_turned_51 (by decide) (fun h51 => ?_) (fun h51 => ?_)
    · refine gq_aload_n X dX7_turned_54 0 rfl ?_
      refine gq_get (C := RX7) (T := TX7) (N := 34) X iX7_turned_X7 0 gl_M_c0 rfl 5 (by decide) fX7_turned_X7_5 rfl dX7_turned_55 ?_
      refine gq_aload_n X dX7_turned_58 0 rfl ?_
      refine gq_get (C := RX7) (T := TX7) (N := 34) X iX7_turned_X7 0 gl_M_c0 rfl 2 (by decide) fX7_turned_X7_2 rfl dX7_turned_59 ?_
      refine gq_iload_n X dX7_turned_62 1 rfl ?_
      refine gq_ald X 2 gl_M_c2 hp dX7_turned_63 ?_
      refine gq_ald X 5 gl_M_c5 (has _ (mv_ix hp)) dX7_turned_64 ?_
      refine gq_aload_n X dX7_turned_65 0 rfl ?_
      refine gq_get (C := RX7) (T := TX7) (N := 34) X iX7_turned_X7 0 gl_M_c0 rfl 5 (by decide) fX7_turned_X7_5 rfl dX7_turned_66 ?_
      refine gq_aload_n X dX7_turned_69 0 rfl ?_
      refine gq_get (C := RX7) (T := TX7) (N := 34) X iX7_turned_X7 0 gl_M_c0 rfl 3 (by decide) fX7_turned_X7_3 rfl dX7_turned_70 ?_
      refine gq_iload_n X dX7_turned_73 1 rfl ?_
      refine gq_ald X 3 gl_M_c3 hp dX7_turned_74 ?_
      refine gq_ald X 5 gl_M_c5 (hbs _ (mv_ix hp)) dX7_turned_75 ?_
      refine gq_ficmp_ne (tgt := 83) X dX7_turned_76 (by decide) (fun h76 => ?_) (fun h76 => ?_)
      · refine gq_iconst (v := 1) X dX7_turned_79 gq_i1 ?_
        refine gq_goto (tgt := 84) X dX7_turned_80 (by decide) ?_
        exact gq_zretf (b := true) X dX7_turned_84 rfl rfl rfl
      · refine gq_iconst (v := 0) X dX7_turned_83 gq_i0 ?_
        exact gq_zretf (b := false) X dX7_turned_84 rfl rfl rfl
    · refine gq_iconst (v := 1) X dX7_turned_79 gq_i1 ?_
      refine gq_goto (tgt := 84) X dX7_turned_80 (by decide) ?_
      exact gq_zretf (b := true) X dX7_turned_84 rfl rfl rfl
theorem iX7_learn_X7 : ∀ w ∈ u_ws RX7 TX7 34, w ∈ wsX7_learn := by decide +kernel
theorem fX7_learn_X7_11 : Cond.fieldLink RX7 35 (TX7 11).1 (TX7 11).2.1 (TX7 11).2.2.1 ∈ wsX7_learn := by decide +kernel
theorem fX7_learn_X7_12 : Cond.fieldLink RX7 38 (TX7 12).1 (TX7 12).2.1 (TX7 12).2.2.1 ∈ wsX7_learn := by decide +kernel
theorem fX7_learn_X7_13 : Cond.fieldLink RX7 41 (TX7 13).1 (TX7 13).2.1 (TX7 13).2.2.1 ∈ wsX7_learn := by decide +kernel
theorem hv_X7_learn : yX7_learn.cls = RX7 ∧ yX7_learn.cls ≠ "java/lang/invoke/MethodHandle" ∧ yX7_learn.cls ≠ "java/lang/invoke/VarHandle" ∧ (parseMethodDescriptor yX7_learn.desc).map (fun d => d.parameters.length) = some 3 := by decide +kernel
def k_X7_learn (S : gs_M) (x1 : Int32) (y2 : Bool) (x3 : Int32) : gs_M :=
  gq_lt (gq_rem x1 16) (fun v1 =>
  gq_lt (k_X7_mixedAt S x1 x3) (fun v2 =>
  if (mg_plain S) (gq_ix v1) ≤ 1 then
    if (mg_mixed S) (gq_ix v2) ≤ 1 then
      gq_lt (ms_plain S (upd (mg_plain S) (gq_ix v1) (k_X7_more ((mg_plain S) (gq_ix v1)) y2))) (fun s3 =>
      gq_lt (ms_mixed s3 (upd (mg_mixed s3) (gq_ix v2) (k_X7_more ((mg_mixed s3) (gq_ix v2)) y2))) (fun s4 =>
      s4))
    else
      gq_lt (ms_plain S (upd (mg_plain S) (gq_ix v1) (k_X7_more ((mg_plain S) (gq_ix v1)) y2))) (fun s5 =>
      gq_lt (ms_mixed s5 (upd (mg_mixed s5) (gq_ix v2) (k_X7_more ((mg_mixed s5) (gq_ix v2)) y2))) (fun s6 =>
      if 1 = gq_b y2 then
        gq_lt (ms_choice s6 (upd (mg_choice s6) (gq_ix v1) (k_X7_more ((mg_choice s6) (gq_ix v1)) true))) (fun s7 =>
        s7)
      else
        gq_lt (ms_choice s6 (upd (mg_choice s6) (gq_ix v1) (k_X7_more ((mg_choice s6) (gq_ix v1)) false))) (fun s8 =>
        s8)))
  else
    if (mg_mixed S) (gq_ix v2) ≤ 1 then
      gq_lt (ms_plain S (upd (mg_plain S) (gq_ix v1) (k_X7_more ((mg_plain S) (gq_ix v1)) y2))) (fun s9 =>
      gq_lt (ms_mixed s9 (upd (mg_mixed s9) (gq_ix v2) (k_X7_more ((mg_mixed s9) (gq_ix v2)) y2))) (fun s10 =>
      if 0 = gq_b y2 then
        gq_lt (ms_choice s10 (upd (mg_choice s10) (gq_ix v1) (k_X7_more ((mg_choice s10) (gq_ix v1)) true))) (fun s11 =>
        s11)
      else
        gq_lt (ms_choice s10 (upd (mg_choice s10) (gq_ix v1) (k_X7_more ((mg_choice s10) (gq_ix v1)) false))) (fun s12 =>
        s12)))
    else
      gq_lt (ms_plain S (upd (mg_plain S) (gq_ix v1) (k_X7_more ((mg_plain S) (gq_ix v1)) y2))) (fun s13 =>
      gq_lt (ms_mixed s13 (upd (mg_mixed s13) (gq_ix v2) (k_X7_more ((mg_mixed s13) (gq_ix v2)) y2))) (fun s14 =>
      s14))))
set_option maxHeartbeats 4000000 in
set_option maxRecDepth 100000 in
theorem c_X7_learn (l : Launch) (D : va_G) (cA : ClassId) (a : Nat → Nat) (S : gs_M) (x1 : Int32) (y2 : Bool) (x3 : Int32) (hp : vp_in x1 60) (hk : vp_in x3 16) : gq_C l yX7_learn wsX7_learn ({ frames := 1, cells := 0, slots := 0, locals := 22 } : Room) D cA [.ref (a 0), .int x1, .int (gq_b y2), .int x3] (gw_M cA a S) (none) (gw_M cA a (k_X7_learn S x1 y2 x3)) := by
  refine gq_openf (own := RX7) (lv := [(0, .ref (a 0)), (1, .int x1), (2, .int (gq_b y2)), (3, .int x3)]) (fun r : gs_M => (none, gw_M cA a r)) (k_X7_learn S x1 y2 x3) (by decide) rfl rfl (Nat.le_of_ble_eq_true rfl) rfl rfl rfl (fun p e s m args below meth c A X => ?_)
  unfold k_X7_learn
  refine gq_iload_n X dX7_learn_0 1 rfl ?_
  refine gq_bipush (v := 16) X dX7_learn_1 (by decide) ?_
  refine gq_irem X dX7_learn_3 (by decide) ?_
  refine gq_letr (fun v1 ev1 => ?_)
  refine gq_eqst (st' := .int v1 :: _) (by rw [ev1]) ?_
  refine gq_istore (lv' := [(4, .int v1), (0, .ref (a 0)), (1, .int x1), (2, .int (gq_b y2)), (3, .int x3)]) X dX7_learn_4 (by decide) rfl ?_
  refine gq_aload_n X dX7_learn_6 1 rfl ?_
  refine gq_iload_n X dX7_learn_7 2 rfl ?_
  refine gq_iload_n X dX7_learn_8 4 rfl ?_
  refine gq_callVr (ws' := gw_M cA a S) X (c_X7_mixedAt l D cA a S x1 x3) rfl ⟨rfl, rfl⟩ ⟨Nat.le_of_ble_eq_true rfl, Nat.le_of_ble_eq_true rfl⟩ gX7_learn_X7_mixedAt hv_X7_mixedAt 0 gl_M_c0 rfl [0, 1, 2, 3, 4, 5, 6, 7, 8, 9, 10, 11, 12, 13, 14, 15, 16, 17, 18, 19, 20, 21, 22, 23] gl_M_self_at gl_M_self_nd gl_M_fst gl_M_self_same rfl rfl (Nat.le_of_ble_eq_true rfl) ⟨Nat.zero_le _, Nat.zero_le _⟩ dX7_learn_9 ?_
  refine gq_letr (fun v2 ev2 => ?_)
  refine gq_eqst (st' := .int v2 :: _) (by rw [ev2]) ?_
  refine gq_istore (lv' := [(5, .int v2), (4, .int v1), (0, .ref (a 0)), (1, .int x1), (2, .int (gq_b y2)), (3, .int x3)]) X dX7_learn_12 (by decide) rfl ?_
  refine gq_aload_n X dX7_learn_14 2 rfl ?_
  refine gq_get (C := RX7) (T := TX7) (N := 34) X iX7_learn_X7 0 gl_M_c0 rfl 11 (by decide) fX7_learn_X7_11 rfl dX7_learn_15 ?_
  refine gq_iload X dX7_learn_18 1 rfl ?_
  refine gq_ald X 8 gl_M_c8 (by rw [ev1]; exact mv_rem16 hp) dX7_learn_20 ?_
  refine gq_iconst (v := 1) X dX7_learn_21 gq_i1 ?_
  refine gq_ficmp_le (tgt := 29) X dX7_learn_22 (by decide) (fun h22 => ?_) (fun h22 => ?_)
  · refine gq_iconst (v := 0) X dX7_learn_29 gq_i0 ?_
    refine gq_istore (lv' := [(6, .int 0), (5, .int v2), (4, .int v1), (0, .ref (a 0)), (1, .int x1), (2, .int (gq_b y2)), (3, .int x3)]) X dX7_learn_30 (by decide) rfl ?_
    refine gq_aload_n X dX7_learn_32 3 rfl ?_
    refine gq_get (C := RX7) (T := TX7) (N := 34) X iX7_learn_X7 0 gl_M_c0 rfl 12 (by decide) fX7_learn_X7_12 rfl dX7_learn_33 ?_
    refine gq_iload X dX7_learn_36 1 rfl ?_
    refine gq_ald X 9 gl_M_c9 (by rw [ev2]; exact mv_xor (mv_rem16 hp) hk) dX7_learn_38 ?_
    refine gq_iconst (v := 1) X dX7_learn_39 gq_i1 ?_
    refine gq_ficmp_le (tgt := 47) X dX7_learn_40 (by decide) (fun h40 => ?_) (fun h40 => ?_)
    · refine gq_iconst (v := 0) X dX7_learn_47 gq_i0 ?_
      refine gq_istore (lv' := [(7, .int 0), (6, .int 0), (5, .int v2), (4, .int v1), (0, .ref (a 0)), (1, .int x1), (2, .int (gq_b y2)), (3, .int x3)]) X dX7_learn_48 (by decide) rfl ?_
      refine gq_aload_n X dX7_learn_50 4 rfl ?_
      refine gq_get (C := RX7) (T := TX7) (N := 34) X iX7_learn_X7 0 gl_M_c0 rfl 11 (by decide) fX7_learn_X7_11 rfl dX7_learn_51 ?_
      refine gq_iload X dX7_learn_54 3 rfl ?_
      refine gq_aload_n X dX7_learn_56 4 rfl ?_
      refine gq_get (C := RX7) (T := TX7) (N := 34) X iX7_learn_X7 0 gl_M_c0 rfl 11 (by decide) fX7_learn_X7_11 rfl dX7_learn_57 ?_
      refine gq_iload X dX7_learn_60 3 rfl ?_
      refine gq_ald X 8 gl_M_c8 (by rw [ev1]; exact mv_rem16 hp) dX7_learn_62 ?_
      refine gq_iload_n X dX7_learn_63 6 rfl ?_
      refine gq_callSr (ws' := gw_M cA a S) X (c_X7_more l D cA ((mg_plain S) (gq_ix v1)) y2) rfl ⟨rfl, rfl⟩ ⟨Nat.le_of_ble_eq_true rfl, Nat.le_of_ble_eq_true rfl⟩ gX7_learn_X7_more hd_X7_more [] rfl (by decide) rfl rfl rfl rfl (Nat.le_of_ble_eq_true rfl) ⟨Nat.zero_le _, Nat.zero_le _⟩ dX7_learn_64 ?_
      refine gq_letr (fun s3 es3 => ?_)
      refine gq_ast (ws' := gw_M cA a s3) X 8 gl_M_c8 (by rw [ev1]; exact mv_rem16 hp) (by rw [es3]; exact gl_M_a8) dX7_learn_67 ?_
      refine gq_aload_n X dX7_learn_68 4 rfl ?_
      refine gq_get (C := RX7) (T := TX7) (N := 34) X iX7_learn_X7 0 gl_M_c0 rfl 12 (by decide) fX7_learn_X7_12 rfl dX7_learn_69 ?_
      refine gq_iload X dX7_learn_72 2 rfl ?_
      refine gq_aload_n X dX7_learn_74 4 rfl ?_
      refine gq_get (C := RX7) (T := TX7) (N := 34) X iX7_learn_X7 0 gl_M_c0 rfl 12 (by decide) fX7_learn_X7_12 rfl dX7_learn_75 ?_
      refine gq_iload X dX7_learn_78 2 rfl ?_
      refine gq_ald X 9 gl_M_c9 (by rw [ev2]; exact mv_xor (mv_rem16 hp) hk) dX7_learn_80 ?_
      refine gq_iload_n X dX7_learn_81 6 rfl ?_
      refine gq_callSr (ws' := gw_M cA a s3) X (c_X7_more l D cA ((mg_mixed s3) (gq_ix v2)) y2) rfl ⟨rfl, rfl⟩ ⟨Nat.le_of_ble_eq_true rfl, Nat.le_of_ble_eq_true rfl⟩ gX7_learn_X7_more hd_X7_more [] rfl (by decide) rfl rfl rfl rfl (Nat.le_of_ble_eq_true rfl) ⟨Nat.zero_le _, Nat.zero_le _⟩ dX7_learn_82 ?_
      refine gq_letr (fun s4 es4 => ?_)
      refine gq_ast (ws' := gw_M cA a s4) X 9 gl_M_c9 (by rw [ev2]; exact mv_xor (mv_rem16 hp) hk) (by rw [es4]; exact gl_M_a9) dX7_learn_85 ?_
      refine gq_iload X dX7_learn_86 1 rfl ?_
      refine gq_iload X dX7_learn_88 0 rfl ?_
      refine gq_icmp_eq (tgt := 121) X dX7_learn_90 (by decide) (fun _ => ?_) (fun h => absurd (by decide) h)
      exact gq_vretf X dX7_learn_121 rfl rfl
    · refine gq_iconst (v := 1) X dX7_learn_43 gq_i1 ?_
      refine gq_goto (tgt := 48) X dX7_learn_44 (by decide) ?_
      refine gq_istore (lv' := [(7, .int 1), (6, .int 0), (5, .int v2), (4, .int v1), (0, .ref (a 0)), (1, .int x1), (2, .int (gq_b y2)), (3, .int x3)]) X dX7_learn_48 (by decide) rfl ?_
      refine gq_aload_n X dX7_learn_50 4 rfl ?_
      refine gq_get (C := RX7) (T := TX7) (N := 34) X iX7_learn_X7 0 gl_M_c0 rfl 11 (by decide) fX7_learn_X7_11 rfl dX7_learn_51 ?_
      refine gq_iload X dX7_learn_54 3 rfl ?_
      refine gq_aload_n X dX7_learn_56 4 rfl ?_
      refine gq_get (C := RX7) (T := TX7) (N := 34) X iX7_learn_X7 0 gl_M_c0 rfl 11 (by decide) fX7_learn_X7_11 rfl dX7_learn_57 ?_
      refine gq_iload X dX7_learn_60 3 rfl ?_
      refine gq_ald X 8 gl_M_c8 (by rw [ev1]; exact mv_rem16 hp) dX7_learn_62 ?_
      refine gq_iload_n X dX7_learn_63 6 rfl ?_
      refine gq_callSr (ws' := gw_M cA a S) X (c_X7_more l D cA ((mg_plain S) (gq_ix v1)) y2) rfl ⟨rfl, rfl⟩ ⟨Nat.le_of_ble_eq_true rfl, Nat.le_of_ble_eq_true rfl⟩ gX7_learn_X7_more hd_X7_more [] rfl (by decide) rfl rfl rfl rfl (Nat.le_of_ble_eq_true rfl) ⟨Nat.zero_le _, Nat.zero_le _⟩ dX7_learn_64 ?_
      refine gq_letr (fun s5 es5 => ?_)
      refine gq_ast (ws' := gw_M cA a s5) X 8 gl_M_c8 (by rw [ev1]; exact mv_rem16 hp) (by rw [es5]; exact gl_M_a8) dX7_learn_67 ?_
      refine gq_aload_n X dX7_learn_68 4 rfl ?_
      refine gq_get (C := RX7) (T := TX7) (N := 34) X iX7_learn_X7 0 gl_M_c0 rfl 12 (by decide) fX7_learn_X7_12 rfl dX7_learn_69 ?_
      refine gq_iload X dX7_learn_72 2 rfl ?_
      refine gq_aload_n X dX7_learn_74 4 rfl ?_
      refine gq_get (C := RX7) (T := TX7) (N := 34) X iX7_learn_X7 0 gl_M_c0 rfl 12 (by decide) fX7_learn_X7_12 rfl dX7_learn_75 ?_
      refine gq_iload X dX7_learn_78 2 rfl ?_
      refine gq_ald X 9 gl_M_c9 (by rw [ev2]; exact mv_xor (mv_rem16 hp) hk) dX7_learn_80 ?_
      refine gq_iload_n X dX7_learn_81 6 rfl ?_
      refine gq_callSr (ws' := gw_M cA a s5) X (c_X7_more l D cA ((mg_mixed s5) (gq_ix v2)) y2) rfl ⟨rfl, rfl⟩ ⟨Nat.le_of_ble_eq_true rfl, Nat.le_of_ble_eq_true rfl⟩ gX7_learn_X7_more hd_X7_more [] rfl (by decide) rfl rfl rfl rfl (Nat.le_of_ble_eq_true rfl) ⟨Nat.zero_le _, Nat.zero_le _⟩ dX7_learn_82 ?_
      refine gq_letr (fun s6 es6 => ?_)
      refine gq_ast (ws' := gw_M cA a s6) X 9 gl_M_c9 (by rw [ev2]; exact mv_xor (mv_rem16 hp) hk) (by rw [es6]; exact gl_M_a9) dX7_learn_85 ?_
      refine gq_iload X dX7_learn_86 1 rfl ?_
      refine gq_iload X dX7_learn_88 0 rfl ?_
      refine gq_icmp_eq (tgt := 121) X dX7_learn_90 (by decide) (fun h => absurd h (by decide)) (fun _ => ?_)
      refine gq_aload_n X dX7_learn_93 4 rfl ?_
      refine gq_get (C := RX7) (T := TX7) (N := 34) X iX7_learn_X7 0 gl_M_c0 rfl 13 (by decide) fX7_learn_X7_13 rfl dX7_learn_94 ?_
      refine gq_iload X dX7_learn_97 3 rfl ?_
      refine gq_aload_n X dX7_learn_99 4 rfl ?_
      refine gq_get (C := RX7) (T := TX7) (N := 34) X iX7_learn_X7 0 gl_M_c0 rfl 13 (by decide) fX7_learn_X7_13 rfl dX7_learn_100 ?_
      refine gq_iload X dX7_learn_103 3 rfl ?_
      refine gq_ald X 10 gl_M_c10 (by rw [ev1]; exact mv_rem16 hp) dX7_learn_105 ?_
      refine gq_iload X dX7_learn_106 0 rfl ?_
      refine gq_iload_n X dX7_learn_108 6 rfl ?_
      refine gq_ficmp_ne (tgt := 116) X dX7_learn_109 (by decide) (fun h109 => ?_) (fun h109 => ?_)
      · refine gq_iconst (v := 1) X dX7_learn_112 gq_i1 ?_
        refine gq_goto (tgt := 117) X dX7_learn_113 (by decide) ?_
        refine gq_callSr (ws' := gw_M cA a s6) X (c_X7_more l D cA ((mg_choice s6) (gq_ix v1)) true) rfl ⟨rfl, rfl⟩ ⟨Nat.le_of_ble_eq_true rfl, Nat.le_of_ble_eq_true rfl⟩ gX7_learn_X7_more hd_X7_more [] rfl (by decide) rfl rfl rfl rfl (Nat.le_of_ble_eq_true rfl) ⟨Nat.zero_le _, Nat.zero_le _⟩ dX7_learn_117 ?_
        refine gq_letr (fun s7 es7 => ?_)
        refine gq_ast (ws' := gw_M cA a s7) X 10 gl_M_c10 (by rw [ev1]; exact mv_rem16 hp) (by rw [es7]; exact gl_M_a10) dX7_learn_120 ?_
        exact gq_vretf X dX7_learn_121 rfl rfl
      · refine gq_iconst (v := 0) X dX7_learn_116 gq_i0 ?_
        refine gq_callSr (ws' := gw_M cA a s6) X (c_X7_more l D cA ((mg_choice s6) (gq_ix v1)) false) rfl ⟨rfl, rfl⟩ ⟨Nat.le_of_ble_eq_true rfl, Nat.le_of_ble_eq_true rfl⟩ gX7_learn_X7_more hd_X7_more [] rfl (by decide) rfl rfl rfl rfl (Nat.le_of_ble_eq_true rfl) ⟨Nat.zero_le _, Nat.zero_le _⟩ dX7_learn_117 ?_
        refine gq_letr (fun s8 es8 => ?_)
        refine gq_ast (ws' := gw_M cA a s8) X 10 gl_M_c10 (by rw [ev1]; exact mv_rem16 hp) (by rw [es8]; exact gl_M_a10) dX7_learn_120 ?_
        exact gq_vretf X dX7_learn_121 rfl rfl
  · refine gq_iconst (v := 1) X dX7_learn_25 gq_i1 ?_
    refine gq_goto (tgt := 30) X dX7_learn_26 (by decide) ?_
    refine gq_istore (lv' := [(6, .int 1), (5, .int v2), (4, .int v1), (0, .ref (a 0)), (1, .int x1), (2, .int (gq_b y2)), (3, .int x3)]) X dX7_learn_30 (by decide) rfl ?_
    refine gq_aload_n X dX7_learn_32 3 rfl ?_
    refine gq_get (C := RX7) (T := TX7) (N := 34) X iX7_learn_X7 0 gl_M_c0 rfl 12 (by decide) fX7_learn_X7_12 rfl dX7_learn_33 ?_
    refine gq_iload X dX7_learn_36 1 rfl ?_
    refine gq_ald X 9 gl_M_c9 (by rw [ev2]; exact mv_xor (mv_rem16 hp) hk) dX7_learn_38 ?_
    refine gq_iconst (v := 1) X dX7_learn_39 gq_i1 ?_
    refine gq_ficmp_le (tgt := 47) X dX7_learn_40 (by decide) (fun h40 => ?_) (fun h40 => ?_)
    · refine gq_iconst (v := 0) X dX7_learn_47 gq_i0 ?_
      refine gq_istore (lv' := [(7, .int 0), (6, .int 1), (5, .int v2), (4, .int v1), (0, .ref (a 0)), (1, .int x1), (2, .int (gq_b y2)), (3, .int x3)]) X dX7_learn_48 (by decide) rfl ?_
      refine gq_aload_n X dX7_learn_50 4 rfl ?_
      refine gq_get (C := RX7) (T := TX7) (N := 34) X iX7_learn_X7 0 gl_M_c0 rfl 11 (by decide) fX7_learn_X7_11 rfl dX7_learn_51 ?_
      refine gq_iload X dX7_learn_54 3 rfl ?_
      refine gq_aload_n X dX7_learn_56 4 rfl ?_
      refine gq_get (C := RX7) (T := TX7) (N := 34) X iX7_learn_X7 0 gl_M_c0 rfl 11 (by decide) fX7_learn_X7_11 rfl dX7_learn_57 ?_
      refine gq_iload X dX7_learn_60 3 rfl ?_
      refine gq_ald X 8 gl_M_c8 (by rw [ev1]; exact mv_rem16 hp) dX7_learn_62 ?_
      refine gq_iload_n X dX7_learn_63 6 rfl ?_
      refine gq_callSr (ws' := gw_M cA a S) X (c_X7_more l D cA ((mg_plain S) (gq_ix v1)) y2) rfl ⟨rfl, rfl⟩ ⟨Nat.le_of_ble_eq_true rfl, Nat.le_of_ble_eq_true rfl⟩ gX7_learn_X7_more hd_X7_more [] rfl (by decide) rfl rfl rfl rfl (Nat.le_of_ble_eq_true rfl) ⟨Nat.zero_le _, Nat.zero_le _⟩ dX7_learn_64 ?_
      refine gq_letr (fun s9 es9 => ?_)
      refine gq_ast (ws' := gw_M cA a s9) X 8 gl_M_c8 (by rw [ev1]; exact mv_rem16 hp) (by rw [es9]; exact gl_M_a8) dX7_learn_67 ?_
      refine gq_aload_n X dX7_learn_68 4 rfl ?_
      refine gq_get (C := RX7) (T := TX7) (N := 34) X iX7_learn_X7 0 gl_M_c0 rfl 12 (by decide) fX7_learn_X7_12 rfl dX7_learn_69 ?_
      refine gq_iload X dX7_learn_72 2 rfl ?_
      refine gq_aload_n X dX7_learn_74 4 rfl ?_
      refine gq_get (C := RX7) (T := TX7) (N := 34) X iX7_learn_X7 0 gl_M_c0 rfl 12 (by decide) fX7_learn_X7_12 rfl dX7_learn_75 ?_
      refine gq_iload X dX7_learn_78 2 rfl ?_
      refine gq_ald X 9 gl_M_c9 (by rw [ev2]; exact mv_xor (mv_rem16 hp) hk) dX7_learn_80 ?_
      refine gq_iload_n X dX7_learn_81 6 rfl ?_
      refine gq_callSr (ws' := gw_M cA a s9) X (c_X7_more l D cA ((mg_mixed s9) (gq_ix v2)) y2) rfl ⟨rfl, rfl⟩ ⟨Nat.le_of_ble_eq_true rfl, Nat.le_of_ble_eq_true rfl⟩ gX7_learn_X7_more hd_X7_more [] rfl (by decide) rfl rfl rfl rfl (Nat.le_of_ble_eq_true rfl) ⟨Nat.zero_le _, Nat.zero_le _⟩ dX7_learn_82 ?_
      refine gq_letr (fun s10 es10 => ?_)
      refine gq_ast (ws' := gw_M cA a s10) X 9 gl_M_c9 (by rw [ev2]; exact mv_xor (mv_rem16 hp) hk) (by rw [es10]; exact gl_M_a9) dX7_learn_85 ?_
      refine gq_iload X dX7_learn_86 1 rfl ?_
      refine gq_iload X dX7_learn_88 0 rfl ?_
      refine gq_icmp_eq (tgt := 121) X dX7_learn_90 (by decide) (fun h => absurd h (by decide)) (fun _ => ?_)
      refine gq_aload_n X dX7_learn_93 4 rfl ?_
      refine gq_get (C := RX7) (T := TX7) (N := 34) X iX7_learn_X7 0 gl_M_c0 rfl 13 (by decide) fX7_learn_X7_13 rfl dX7_learn_94 ?_
      refine gq_iload X dX7_learn_97 3 rfl ?_
      refine gq_aload_n X dX7_learn_99 4 rfl ?_
      refine gq_get (C := RX7) (T := TX7) (N := 34) X iX7_learn_X7 0 gl_M_c0 rfl 13 (by decide) fX7_learn_X7_13 rfl dX7_learn_100 ?_
      refine gq_iload X dX7_learn_103 3 rfl ?_
      refine gq_ald X 10 gl_M_c10 (by rw [ev1]; exact mv_rem16 hp) dX7_learn_105 ?_
      refine gq_iload X dX7_learn_106 0 rfl ?_
      refine gq_iload_n X dX7_learn_108 6 rfl ?_
      refine gq_ficmp_ne (tgt := 116) X dX7_learn_109 (by decide) (fun h109 => ?_) (fun h109 => ?_)
      · refine gq_iconst (v := 1) X dX7_learn_112 gq_i1 ?_
        refine gq_goto (tgt := 117) X dX7_learn_113 (by decide) ?_
        refine gq_callSr (ws' := gw_M cA a s10) X (c_X7_more l D cA ((mg_choice s10) (gq_ix v1)) true) rfl ⟨rfl, rfl⟩ ⟨Nat.le_of_ble_eq_true rfl, Nat.le_of_ble_eq_true rfl⟩ gX7_learn_X7_more hd_X7_more [] rfl (by decide) rfl rfl rfl rfl (Nat.le_of_ble_eq_true rfl) ⟨Nat.zero_le _, Nat.zero_le _⟩ dX7_learn_117 ?_
        refine gq_letr (fun s11 es11 => ?_)
        refine gq_ast (ws' := gw_M cA a s11) X 10 gl_M_c10 (by rw [ev1]; exact mv_rem16 hp) (by rw [es11]; exact gl_M_a10) dX7_learn_120 ?_
        exact gq_vretf X dX7_learn_121 rfl rfl
      · refine gq_iconst (v := 0) X dX7_learn_116 gq_i0 ?_
        refine gq_callSr (ws' := gw_M cA a s10) X (c_X7_more l D cA ((mg_choice s10) (gq_ix v1)) false) rfl ⟨rfl, rfl⟩ ⟨Nat.le_of_ble_eq_true rfl, Nat.le_of_ble_eq_true rfl⟩ gX7_learn_X7_more hd_X7_more [] rfl (by decide) rfl rfl rfl rfl (Nat.le_of_ble_eq_true rfl) ⟨Nat.zero_le _, Nat.zero_le _⟩ dX7_learn_117 ?_
        refine gq_letr (fun s12 es12 => ?_)
        refine gq_ast (ws' := gw_M cA a s12) X 10 gl_M_c10 (by rw [ev1]; exact mv_rem16 hp) (by rw [es12]; exact gl_M_a10) dX7_learn_120 ?_
        exact gq_vretf X dX7_learn_121 rfl rfl
    · refine gq_iconst (v := 1) X dX7_learn_43 gq_i1 ?_
      refine gq_goto (tgt := 48) X dX7_learn_44 (by decide) ?_
      refine gq_istore (lv' := [(7, .int 1), (6, .int 1), (5, .int v2), (4, .int v1), (0, .ref (a 0)), (1, .int x1), (2, .int (gq_b y2)), (3, .int x3)]) X dX7_learn_48 (by decide) rfl ?_
      refine gq_aload_n X dX7_learn_50 4 rfl ?_
      refine gq_get (C := RX7) (T := TX7) (N := 34) X iX7_learn_X7 0 gl_M_c0 rfl 11 (by decide) fX7_learn_X7_11 rfl dX7_learn_51 ?_
      refine gq_iload X dX7_learn_54 3 rfl ?_
      refine gq_aload_n X dX7_learn_56 4 rfl ?_
      refine gq_get (C := RX7) (T := TX7) (N := 34) X iX7_learn_X7 0 gl_M_c0 rfl 11 (by decide) fX7_learn_X7_11 rfl dX7_learn_57 ?_
      refine gq_iload X dX7_learn_60 3 rfl ?_
      refine gq_ald X 8 gl_M_c8 (by rw [ev1]; exact mv_rem16 hp) dX7_learn_62 ?_
      refine gq_iload_n X dX7_learn_63 6 rfl ?_
      refine gq_callSr (ws' := gw_M cA a S) X (c_X7_more l D cA ((mg_plain S) (gq_ix v1)) y2) rfl ⟨rfl, rfl⟩ ⟨Nat.le_of_ble_eq_true rfl, Nat.le_of_ble_eq_true rfl⟩ gX7_learn_X7_more hd_X7_more [] rfl (by decide) rfl rfl rfl rfl (Nat.le_of_ble_eq_true rfl) ⟨Nat.zero_le _, Nat.zero_le _⟩ dX7_learn_64 ?_
      refine gq_letr (fun s13 es13 => ?_)
      refine gq_ast (ws' := gw_M cA a s13) X 8 gl_M_c8 (by rw [ev1]; exact mv_rem16 hp) (by rw [es13]; exact gl_M_a8) dX7_learn_67 ?_
      refine gq_aload_n X dX7_learn_68 4 rfl ?_
      refine gq_get (C := RX7) (T := TX7) (N := 34) X iX7_learn_X7 0 gl_M_c0 rfl 12 (by decide) fX7_learn_X7_12 rfl dX7_learn_69 ?_
      refine gq_iload X dX7_learn_72 2 rfl ?_
      refine gq_aload_n X dX7_learn_74 4 rfl ?_
      refine gq_get (C := RX7) (T := TX7) (N := 34) X iX7_learn_X7 0 gl_M_c0 rfl 12 (by decide) fX7_learn_X7_12 rfl dX7_learn_75 ?_
      refine gq_iload X dX7_learn_78 2 rfl ?_
      refine gq_ald X 9 gl_M_c9 (by rw [ev2]; exact mv_xor (mv_rem16 hp) hk) dX7_learn_80 ?_
      refine gq_iload_n X dX7_learn_81 6 rfl ?_
      refine gq_callSr (ws' := gw_M cA a s13) X (c_X7_more l D cA ((mg_mixed s13) (gq_ix v2)) y2) rfl ⟨rfl, rfl⟩ ⟨Nat.le_of_ble_eq_true rfl, Nat.le_of_ble_eq_true rfl⟩ gX7_learn_X7_more hd_X7_more [] rfl (by decide) rfl rfl rfl rfl (Nat.le_of_ble_eq_true rfl) ⟨Nat.zero_le _, Nat.zero_le _⟩ dX7_learn_82 ?_
      refine gq_letr (fun s14 es14 => ?_)
      refine gq_ast (ws' := gw_M cA a s14) X 9 gl_M_c9 (by rw [ev2]; exact mv_xor (mv_rem16 hp) hk) (by rw [es14]; exact gl_M_a9) dX7_learn_85 ?_
      refine gq_iload X dX7_learn_86 1 rfl ?_
      refine gq_iload X dX7_learn_88 0 rfl ?_
      refine gq_icmp_eq (tgt := 121) X dX7_learn_90 (by decide) (fun _ => ?_) (fun h => absurd (by decide) h)
      exact gq_vretf X dX7_learn_121 rfl rfl
theorem iX7_act_X7 : ∀ w ∈ u_ws RX7 TX7 34, w ∈ wsX7_act := by decide +kernel
theorem fX7_act_X7_0 : Cond.fieldLink RX7 100 (TX7 0).1 (TX7 0).2.1 (TX7 0).2.2.1 ∈ wsX7_act := by decide +kernel
theorem fX7_act_X7_1 : Cond.fieldLink RX7 7 (TX7 1).1 (TX7 1).2.1 (TX7 1).2.2.1 ∈ wsX7_act := by decide +kernel
theorem fX7_act_X7_2 : Cond.fieldLink RX7 13 (TX7 2).1 (TX7 2).2.1 (TX7 2).2.2.1 ∈ wsX7_act := by decide +kernel
theorem fX7_act_X7_3 : Cond.fieldLink RX7 16 (TX7 3).1 (TX7 3).2.1 (TX7 3).2.2.1 ∈ wsX7_act := by decide +kernel
theorem fX7_act_X7_4 : Cond.fieldLink RX7 19 (TX7 4).1 (TX7 4).2.1 (TX7 4).2.2.1 ∈ wsX7_act := by decide +kernel
theorem fX7_act_X7_27 : Cond.fieldLink RX7 96 (TX7 27).1 (TX7 27).2.1 (TX7 27).2.2.1 ∈ wsX7_act := by decide +kernel
theorem hv_X7_act : yX7_act.cls = RX7 ∧ yX7_act.cls ≠ "java/lang/invoke/MethodHandle" ∧ yX7_act.cls ≠ "java/lang/invoke/VarHandle" ∧ (parseMethodDescriptor yX7_act.desc).map (fun d => d.parameters.length) = some 4 := by decide +kernel
def k_X7_act (S : gs_M) (x1 : Int32) (x2 : Int32) (x3 : Int32) (x4 : Int32) : Int32 × gs_M :=
  if k_X7_in x1 0 11 = true then
    if k_X7_in x2 0 7 = true then
      if k_X7_in x3 0 7 = true then
        if k_X7_in x1 5 8 = true then
          if k_X7_in x4 0 60 = true then
            if mg_runs S = true then
              ((-103), S)
            else
              if mg_acts S = 60 then
                ((-104), S)
              else
                gq_lt (ms_kinds S (upd (mg_kinds S) (gq_ix (mg_acts S)) x1)) (fun s1 =>
                gq_lt (ms_as s1 (upd (mg_as s1) (gq_ix (mg_acts s1)) x2)) (fun s2 =>
                gq_lt (ms_bs s2 (upd (mg_bs s2) (gq_ix (mg_acts s2)) x3)) (fun s3 =>
                gq_lt (ms_cs s3 (upd (mg_cs s3) (gq_ix (mg_acts s3)) x4)) (fun s4 =>
                gq_lt (ms_acts s4 ((mg_acts s4) + 1)) (fun s5 =>
                ((mg_acts s5) - 1, s5))))))
          else
            ((-102), S)
        else
          if mg_runs S = true then
            ((-103), S)
          else
            if mg_acts S = 60 then
              ((-104), S)
            else
              gq_lt (ms_kinds S (upd (mg_kinds S) (gq_ix (mg_acts S)) x1)) (fun s6 =>
              gq_lt (ms_as s6 (upd (mg_as s6) (gq_ix (mg_acts s6)) x2)) (fun s7 =>
              gq_lt (ms_bs s7 (upd (mg_bs s7) (gq_ix (mg_acts s7)) x3)) (fun s8 =>
              gq_lt (ms_cs s8 (upd (mg_cs s8) (gq_ix (mg_acts s8)) x4)) (fun s9 =>
              gq_lt (ms_acts s9 ((mg_acts s9) + 1)) (fun s10 =>
              ((mg_acts s10) - 1, s10))))))
      else
        ((-102), S)
    else
      ((-102), S)
  else
    ((-102), S)
set_option maxHeartbeats 4000000 in
set_option maxRecDepth 100000 in
theorem c_X7_act (l : Launch) (D : va_G) (cA : ClassId) (a : Nat → Nat) (S : gs_M) (x1 : Int32) (x2 : Int32) (x3 : Int32) (x4 : Int32) (ha : vp_in (mg_acts S) 61) : gq_C l yX7_act wsX7_act ({ frames := 1, cells := 0, slots := 0, locals := 22 } : Room) D cA [.ref (a 0), .int x1, .int x2, .int x3, .int x4] (gw_M cA a S) (some (.int (k_X7_act S x1 x2 x3 x4).1)) (gw_M cA a ((k_X7_act S x1 x2 x3 x4).2)) := by
  refine gq_openf (own := RX7) (lv := [(0, .ref (a 0)), (1, .int x1), (2, .int x2), (3, .int x3), (4, .int x4)]) (fun r : Int32 × gs_M => (some (.int r.1), gw_M cA a r.2)) (k_X7_act S x1 x2 x3 x4) (by decide) rfl rfl (Nat.le_of_ble_eq_true rfl) rfl rfl rfl (fun p e s m args below meth c A X => ?_)
  unfold k_X7_act
  refine gq_iload_n X dX7_act_0 1 rfl ?_
  refine gq_iconst (v := 0) X dX7_act_1 gq_i0 ?_
  refine gq_bipush (v := 11) X dX7_act_2 (by decide) ?_
  refine gq_callSr (ws' := gw_M cA a S) X (c_X7_in l D cA x1 0 11) rfl ⟨rfl, rfl⟩ ⟨Nat.le_of_ble_eq_true rfl, Nat.le_of_ble_eq_true rfl⟩ gX7_act_X7_in hd_X7_in [] rfl (by decide) rfl rfl rfl rfl (Nat.le_of_ble_eq_true rfl) ⟨Nat.zero_le _, Nat.zero_le _⟩ dX7_act_4 ?_
  refine gq_fbif_eq (tgt := 51) X dX7_act_7 (by decide) (fun h7 => ?_) (fun h7 => ?_)
  · refine gq_iload_n X dX7_act_10 2 rfl ?_
    refine gq_iconst (v := 0) X dX7_act_11 gq_i0 ?_
    refine gq_bipush (v := 7) X dX7_act_12 (by decide) ?_
    refine gq_callSr (ws' := gw_M cA a S) X (c_X7_in l D cA x2 0 7) rfl ⟨rfl, rfl⟩ ⟨Nat.le_of_ble_eq_true rfl, Nat.le_of_ble_eq_true rfl⟩ gX7_act_X7_in hd_X7_in [] rfl (by decide) rfl rfl rfl rfl (Nat.le_of_ble_eq_true rfl) ⟨Nat.zero_le _, Nat.zero_le _⟩ dX7_act_14 ?_
    refine gq_fbif_eq (tgt := 51) X dX7_act_17 (by decide) (fun h17 => ?_) (fun h17 => ?_)
    · refine gq_iload_n X dX7_act_20 3 rfl ?_
      refine gq_iconst (v := 0) X dX7_act_21 gq_i0 ?_
      refine gq_bipush (v := 7) X dX7_act_22 (by decide) ?_
      refine gq_callSr (ws' := gw_M cA a S) X (c_X7_in l D cA x3 0 7) rfl ⟨rfl, rfl⟩ ⟨Nat.le_of_ble_eq_true rfl, Nat.le_of_ble_eq_true rfl⟩ gX7_act_X7_in hd_X7_in [] rfl (by decide) rfl rfl rfl rfl (Nat.le_of_ble_eq_true rfl) ⟨Nat.zero_le _, Nat.zero_le _⟩ dX7_act_24 ?_
      refine gq_fbif_eq (tgt := 51) X dX7_act_27 (by decide) (fun h27 => ?_) (fun h27 => ?_)
      · refine gq_iload_n X dX7_act_30 1 rfl ?_
        refine gq_iconst (v := 5) X dX7_act_31 gq_i5 ?_
        refine gq_bipush (v := 8) X dX7_act_32 (by decide) ?_
        refine gq_callSr (ws' := gw_M cA a S) X (c_X7_in l D cA x1 5 8) rfl ⟨rfl, rfl⟩ ⟨Nat.le_of_ble_eq_true rfl, Nat.le_of_ble_eq_true rfl⟩ gX7_act_X7_in hd_X7_in [] rfl (by decide) rfl rfl rfl rfl (Nat.le_of_ble_eq_true rfl) ⟨Nat.zero_le _, Nat.zero_le _⟩ dX7_act_34 ?_
        refine gq_fbif_eq (tgt := 54) X dX7_act_37 (by decide) (fun h37 => ?_) (fun h37 => ?_)
        · refine gq_iload X dX7_act_40 4 rfl ?_
          refine gq_iconst (v := 0) X dX7_act_42 gq_i0 ?_
          refine gq_bipush (v := 60) X dX7_act_43 (by decide) ?_
          refine gq_callSr (ws' := gw_M cA a S) X (c_X7_in l D cA x4 0 60) rfl ⟨rfl, rfl⟩ ⟨Nat.le_of_ble_eq_true rfl, Nat.le_of_ble_eq_true rfl⟩ gX7_act_X7_in hd_X7_in [] rfl (by decide) rfl rfl rfl rfl (Nat.le_of_ble_eq_true rfl) ⟨Nat.zero_le _, Nat.zero_le _⟩ dX7_act_45 ?_
          refine gq_fbif_ne (tgt := 54) X dX7_act_48 (by decide) (fun h48 => ?_) (fun h48 => ?_)
          · refine gq_aload_n X dX7_act_54 0 rfl ?_
            refine gq_get (C := RX7) (T := TX7) (N := 34) X iX7_act_X7 0 gl_M_c0 rfl 27 (by decide) fX7_act_X7_27 rfl dX7_act_55 ?_
            refine gq_fbif_eq (tgt := 64) X dX7_act_58 (by decide) (fun h58 => ?_) (fun h58 => ?_)
            · refine gq_bipush (v := (-103)) X dX7_act_61 (by decide) ?_
              exact gq_iretf X dX7_act_63 rfl rfl
            · refine gq_aload_n X dX7_act_64 0 rfl ?_
              refine gq_get (C := RX7) (T := TX7) (N := 34) X iX7_act_X7 0 gl_M_c0 rfl 0 (by decide) fX7_act_X7_0 rfl dX7_act_65 ?_
              refine gq_bipush (v := 60) X dX7_act_68 (by decide) ?_
              refine gq_ficmp_ne (tgt := 76) X dX7_act_70 (by decide) (fun h70 => ?_) (fun h70 => ?_)
              · refine gq_bipush (v := (-104)) X dX7_act_73 (by decide) ?_
                exact gq_iretf X dX7_act_75 rfl rfl
              · refine gq_aload_n X dX7_act_76 0 rfl ?_
                refine gq_get (C := RX7) (T := TX7) (N := 34) X iX7_act_X7 0 gl_M_c0 rfl 1 (by decide) fX7_act_X7_1 rfl dX7_act_77 ?_
                refine gq_aload_n X dX7_act_80 0 rfl ?_
                refine gq_get (C := RX7) (T := TX7) (N := 34) X iX7_act_X7 0 gl_M_c0 rfl 0 (by decide) fX7_act_X7_0 rfl dX7_act_81 ?_
                refine gq_iload_n X dX7_act_84 1 rfl ?_
                refine gq_letr (fun s1 es1 => ?_)
                refine gq_ast (ws' := gw_M cA a s1) X 1 gl_M_c1 (mv_ne (by decide) ha (by decide) h70) (by rw [es1]; exact gl_M_a1) dX7_act_85 ?_
                refine gq_aload_n X dX7_act_86 0 rfl ?_
                refine gq_get (C := RX7) (T := TX7) (N := 34) X iX7_act_X7 0 gl_M_c0 rfl 2 (by decide) fX7_act_X7_2 rfl dX7_act_87 ?_
                refine gq_aload_n X dX7_act_90 0 rfl ?_
                refine gq_get (C := RX7) (T := TX7) (N := 34) X iX7_act_X7 0 gl_M_c0 rfl 0 (by decide) fX7_act_X7_0 rfl dX7_act_91 ?_
                refine gq_iload_n X dX7_act_94 2 rfl ?_
                refine gq_letr (fun s2 es2 => ?_)
                refine gq_ast (ws' := gw_M cA a s2) X 2 gl_M_c2 (by rw [es1]; exact mv_ne (by decide) ha (by decide) h70) (by rw [es2]; exact gl_M_a2) dX7_act_95 ?_
                refine gq_aload_n X dX7_act_96 0 rfl ?_
                refine gq_get (C := RX7) (T := TX7) (N := 34) X iX7_act_X7 0 gl_M_c0 rfl 3 (by decide) fX7_act_X7_3 rfl dX7_act_97 ?_
                refine gq_aload_n X dX7_act_100 0 rfl ?_
                refine gq_get (C := RX7) (T := TX7) (N := 34) X iX7_act_X7 0 gl_M_c0 rfl 0 (by decide) fX7_act_X7_0 rfl dX7_act_101 ?_
                refine gq_iload_n X dX7_act_104 3 rfl ?_
                refine gq_letr (fun s3 es3 => ?_)
                refine gq_ast (ws' := gw_M cA a s3) X 3 gl_M_c3 (by rw [es2, es1]; exact mv_ne (by decide) ha (by decide) h70) (by rw [es3]; exact gl_M_a3) dX7_act_105 ?_
                refine gq_aload_n X dX7_act_106 0 rfl ?_
                refine gq_get (C := RX7) (T := TX7) (N := 34) X iX7_act_X7 0 gl_M_c0 rfl 4 (by decide) fX7_act_X7_4 rfl dX7_act_107 ?_
                refine gq_aload_n X dX7_act_110 0 rfl ?_
                refine gq_get (C := RX7) (T := TX7) (N := 34) X iX7_act_X7 0 gl_M_c0 rfl 0 (by decide) fX7_act_X7_0 rfl dX7_act_111 ?_
                refine gq_iload X dX7_act_114 4 rfl ?_
                refine gq_letr (fun s4 es4 => ?_)
                refine gq_ast (ws' := gw_M cA a s4) X 4 gl_M_c4 (by rw [es3, es2, es1]; exact mv_ne (by decide) ha (by decide) h70) (by rw [es4]; exact gl_M_a4) dX7_act_116 ?_
                refine gq_aload_n X dX7_act_117 0 rfl ?_
                refine gq_dup X dX7_act_118 rfl ?_
                refine gq_get (C := RX7) (T := TX7) (N := 34) X iX7_act_X7 0 gl_M_c0 rfl 0 (by decide) fX7_act_X7_0 rfl dX7_act_119 ?_
                refine gq_iconst (v := 1) X dX7_act_122 gq_i1 ?_
                refine gq_iadd X dX7_act_123 ?_
                refine gq_letr (fun s5 es5 => ?_)
                refine gq_put (C := RX7) (T := TX7) (N := 34) (ws' := gw_M cA a s5) X iX7_act_X7 tyX7 tyX7_ok nmX7 0 gl_M_c0 rfl 0 (by decide) fX7_act_X7_0 rfl rfl rfl (Nat.le_of_ble_eq_true rfl) (by rw [es5]; exact gl_M_f0) dX7_act_124 ?_
                refine gq_aload_n X dX7_act_127 0 rfl ?_
                refine gq_get (C := RX7) (T := TX7) (N := 34) X iX7_act_X7 0 gl_M_c0 rfl 0 (by decide) fX7_act_X7_0 rfl dX7_act_128 ?_
                refine gq_iconst (v := 1) X dX7_act_131 gq_i1 ?_
                refine gq_isub X dX7_act_132 ?_
                exact gq_iretf X dX7_act_133 rfl rfl
          · refine gq_bipush (v := (-102)) X dX7_act_51 (by decide) ?_
            exact gq_iretf X dX7_act_53 rfl rfl
        · refine gq_aload_n X dX7_act_54 0 rfl ?_
          refine gq_get (C := RX7) (T := TX7) (N := 34) X iX7_act_X7 0 gl_M_c0 rfl 27 (by decide) fX7_act_X7_27 rfl dX7_act_55 ?_
          refine gq_fbif_eq (tgt := 64) X dX7_act_58 (by decide) (fun h58 => ?_) (fun h58 => ?_)
          · refine gq_bipush (v := (-103)) X dX7_act_61 (by decide) ?_
            exact gq_iretf X dX7_act_63 rfl rfl
          · refine gq_aload_n X dX7_act_64 0 rfl ?_
            refine gq_get (C := RX7) (T := TX7) (N := 34) X iX7_act_X7 0 gl_M_c0 rfl 0 (by decide) fX7_act_X7_0 rfl dX7_act_65 ?_
            refine gq_bipush (v := 60) X dX7_act_68 (by decide) ?_
            refine gq_ficmp_ne (tgt := 76) X dX7_act_70 (by decide) (fun h70 => ?_) (fun h70 => ?_)
            · refine gq_bipush (v := (-104)) X dX7_act_73 (by decide) ?_
              exact gq_iretf X dX7_act_75 rfl rfl
            · refine gq_aload_n X dX7_act_76 0 rfl ?_
              refine gq_get (C := RX7) (T := TX7) (N := 34) X iX7_act_X7 0 gl_M_c0 rfl 1 (by decide) fX7_act_X7_1 rfl dX7_act_77 ?_
              refine gq_aload_n X dX7_act_80 0 rfl ?_
              refine gq_get (C := RX7) (T := TX7) (N := 34) X iX7_act_X7 0 gl_M_c0 rfl 0 (by decide) fX7_act_X7_0 rfl dX7_act_81 ?_
              refine gq_iload_n X dX7_act_84 1 rfl ?_
              refine gq_letr (fun s6 es6 => ?_)
              refine gq_ast (ws' := gw_M cA a s6) X 1 gl_M_c1 (mv_ne (by decide) ha (by decide) h70) (by rw [es6]; exact gl_M_a1) dX7_act_85 ?_
              refine gq_aload_n X dX7_act_86 0 rfl ?_
              refine gq_get (C := RX7) (T := TX7) (N := 34) X iX7_act_X7 0 gl_M_c0 rfl 2 (by decide) fX7_act_X7_2 rfl dX7_act_87 ?_
              refine gq_aload_n X dX7_act_90 0 rfl ?_
              refine gq_get (C := RX7) (T := TX7) (N := 34) X iX7_act_X7 0 gl_M_c0 rfl 0 (by decide) fX7_act_X7_0 rfl dX7_act_91 ?_
              refine gq_iload_n X dX7_act_94 2 rfl ?_
              refine gq_letr (fun s7 es7 => ?_)
              refine gq_ast (ws' := gw_M cA a s7) X 2 gl_M_c2 (by rw [es6]; exact mv_ne (by decide) ha (by decide) h70) (by rw [es7]; exact gl_M_a2) dX7_act_95 ?_
              refine gq_aload_n X dX7_act_96 0 rfl ?_
              refine gq_get (C := RX7) (T := TX7) (N := 34) X iX7_act_X7 0 gl_M_c0 rfl 3 (by decide) fX7_act_X7_3 rfl dX7_act_97 ?_
              refine gq_aload_n X dX7_act_100 0 rfl ?_
              refine gq_get (C := RX7) (T := TX7) (N := 34) X iX7_act_X7 0 gl_M_c0 rfl 0 (by decide) fX7_act_X7_0 rfl dX7_act_101 ?_
              refine gq_iload_n X dX7_act_104 3 rfl ?_
              refine gq_letr (fun s8 es8 => ?_)
              refine gq_ast (ws' := gw_M cA a s8) X 3 gl_M_c3 (by rw [es7, es6]; exact mv_ne (by decide) ha (by decide) h70) (by rw [es8]; exact gl_M_a3) dX7_act_105 ?_
              refine gq_aload_n X dX7_act_106 0 rfl ?_
              refine gq_get (C := RX7) (T := TX7) (N := 34) X iX7_act_X7 0 gl_M_c0 rfl 4 (by decide) fX7_act_X7_4 rfl dX7_act_107 ?_
              refine gq_aload_n X dX7_act_110 0 rfl ?_
              refine gq_get (C := RX7) (T := TX7) (N := 34) X iX7_act_X7 0 gl_M_c0 rfl 0 (by decide) fX7_act_X7_0 rfl dX7_act_111 ?_
              refine gq_iload X dX7_act_114 4 rfl ?_
              refine gq_letr (fun s9 es9 => ?_)
              refine gq_ast (ws' := gw_M cA a s9) X 4 gl_M_c4 (by rw [es8, es7, es6]; exact mv_ne (by decide) ha (by decide) h70) (by rw [es9]; exact gl_M_a4) dX7_act_116 ?_
              refine gq_aload_n X dX7_act_117 0 rfl ?_
              refine gq_dup X dX7_act_118 rfl ?_
              refine gq_get (C := RX7) (T := TX7) (N := 34) X iX7_act_X7 0 gl_M_c0 rfl 0 (by decide) fX7_act_X7_0 rfl dX7_act_119 ?_
              refine gq_iconst (v := 1) X dX7_act_122 gq_i1 ?_
              refine gq_iadd X dX7_act_123 ?_
              refine gq_letr (fun s10 es10 => ?_)
              refine gq_put (C := RX7) (T := TX7) (N := 34) (ws' := gw_M cA a s10) X iX7_act_X7 tyX7 tyX7_ok nmX7 0 gl_M_c0 rfl 0 (by decide) fX7_act_X7_0 rfl rfl rfl (Nat.le_of_ble_eq_true rfl) (by rw [es10]; exact gl_M_f0) dX7_act_124 ?_
              refine gq_aload_n X dX7_act_127 0 rfl ?_
              refine gq_get (C := RX7) (T := TX7) (N := 34) X iX7_act_X7 0 gl_M_c0 rfl 0 (by decide) fX7_act_X7_0 rfl dX7_act_128 ?_
              refine gq_iconst (v := 1) X dX7_act_131 gq_i1 ?_
              refine gq_isub X dX7_act_132 ?_
              exact gq_iretf X dX7_act_133 rfl rfl
      · refine gq_bipush (v := (-102)) X dX7_act_51 (by decide) ?_
        exact gq_iretf X dX7_act_53 rfl rfl
    · refine gq_bipush (v := (-102)) X dX7_act_51 (by decide) ?_
      exact gq_iretf X dX7_act_53 rfl rfl
  · refine gq_bipush (v := (-102)) X dX7_act_51 (by decide) ?_
    exact gq_iretf X dX7_act_53 rfl rfl
theorem iX7_wipe_X7 : ∀ w ∈ u_ws RX7 TX7 34, w ∈ wsX7_wipe := by decide +kernel
theorem fX7_wipe_X7_0 : Cond.fieldLink RX7 100 (TX7 0).1 (TX7 0).2.1 (TX7 0).2.2.1 ∈ wsX7_wipe := by decide +kernel
theorem fX7_wipe_X7_27 : Cond.fieldLink RX7 96 (TX7 27).1 (TX7 27).2.1 (TX7 27).2.2.1 ∈ wsX7_wipe := by decide +kernel
theorem hv_X7_wipe : yX7_wipe.cls = RX7 ∧ yX7_wipe.cls ≠ "java/lang/invoke/MethodHandle" ∧ yX7_wipe.cls ≠ "java/lang/invoke/VarHandle" ∧ (parseMethodDescriptor yX7_wipe.desc).map (fun d => d.parameters.length) = some 0 := by decide +kernel
def k_X7_wipe (S : gs_M) : Int32 × gs_M :=
  if mg_runs S = true then
    ((-103), S)
  else
    gq_lt (mg_acts S) (fun v1 =>
    gq_lt (ms_acts S 0) (fun s2 =>
    (v1, s2)))
set_option maxHeartbeats 4000000 in
set_option maxRecDepth 100000 in
theorem c_X7_wipe (l : Launch) (D : va_G) (cA : ClassId) (a : Nat → Nat) (S : gs_M)  : gq_C l yX7_wipe wsX7_wipe ({ frames := 0, cells := 0, slots := 0, locals := 0 } : Room) D cA [.ref (a 0)] (gw_M cA a S) (some (.int (k_X7_wipe S).1)) (gw_M cA a ((k_X7_wipe S).2)) := by
  refine gq_openf (own := RX7) (lv := [(0, .ref (a 0))]) (fun r : Int32 × gs_M => (some (.int r.1), gw_M cA a r.2)) (k_X7_wipe S) (by decide) rfl rfl (Nat.le_of_ble_eq_true rfl) rfl rfl rfl (fun p e s m args below meth c A X => ?_)
  unfold k_X7_wipe
  refine gq_aload_n X dX7_wipe_0 0 rfl ?_
  refine gq_get (C := RX7) (T := TX7) (N := 34) X iX7_wipe_X7 0 gl_M_c0 rfl 27 (by decide) fX7_wipe_X7_27 rfl dX7_wipe_1 ?_
  refine gq_fbif_eq (tgt := 10) X dX7_wipe_4 (by decide) (fun h4 => ?_) (fun h4 => ?_)
  · refine gq_bipush (v := (-103)) X dX7_wipe_7 (by decide) ?_
    exact gq_iretf X dX7_wipe_9 rfl rfl
  · refine gq_aload_n X dX7_wipe_10 0 rfl ?_
    refine gq_get (C := RX7) (T := TX7) (N := 34) X iX7_wipe_X7 0 gl_M_c0 rfl 0 (by decide) fX7_wipe_X7_0 rfl dX7_wipe_11 ?_
    refine gq_letr (fun v1 ev1 => ?_)
    refine gq_eqst (st' := .int v1 :: _) (by rw [ev1]) ?_
    refine gq_istore_n (lv' := [(1, .int v1), (0, .ref (a 0))]) X dX7_wipe_14 (by decide) rfl ?_
    refine gq_aload_n X dX7_wipe_15 1 rfl ?_
    refine gq_iconst (v := 0) X dX7_wipe_16 gq_i0 ?_
    refine gq_letr (fun s2 es2 => ?_)
    refine gq_put (C := RX7) (T := TX7) (N := 34) (ws' := gw_M cA a s2) X iX7_wipe_X7 tyX7 tyX7_ok nmX7 0 gl_M_c0 rfl 0 (by decide) fX7_wipe_X7_0 rfl rfl rfl (Nat.le_of_ble_eq_true rfl) (by rw [es2]; exact gl_M_f0) dX7_wipe_17 ?_
    refine gq_iload_n X dX7_wipe_20 0 rfl ?_
    exact gq_iretf X dX7_wipe_21 rfl rfl
theorem mv_lo {x : Int32} (h : vp_in x 24) (h8 : ¬ 8 ≤ x) : vp_in x 8 := by
  rw [vp_in_iff] at h ⊢
  rw [Int32.le_iff_toInt_le, show (8 : Int32).toInt = 8 by decide] at h8
  omega
theorem mv_hi {x : Int32} (h : vp_in x 24) (h8 : 8 ≤ x) : vp_in (x - 8) 16 := by
  obtain ⟨j, hj, rfl⟩ := vp_in_of h (by decide)
  have h1 : ∀ j, j < 24 → 8 ≤ nI j → vp_in (nI j - 8) 16 := by unfold vp_in; decide +kernel
  exact h1 j hj h8
theorem iX7_valueOf_X7 : ∀ w ∈ u_ws RX7 TX7 34, w ∈ wsX7_valueOf := by decide +kernel
theorem fX7_valueOf_X7_5 : Cond.fieldLink RX7 22 (TX7 5).1 (TX7 5).2.1 (TX7 5).2.2.1 ∈ wsX7_valueOf := by decide +kernel
theorem fX7_valueOf_X7_6 : Cond.fieldLink RX7 25 (TX7 6).1 (TX7 6).2.1 (TX7 6).2.2.1 ∈ wsX7_valueOf := by decide +kernel
theorem hv_X7_valueOf : yX7_valueOf.cls = RX7 ∧ yX7_valueOf.cls ≠ "java/lang/invoke/MethodHandle" ∧ yX7_valueOf.cls ≠ "java/lang/invoke/VarHandle" ∧ (parseMethodDescriptor yX7_valueOf.desc).map (fun d => d.parameters.length) = some 1 := by decide +kernel
def k_X7_valueOf (S : gs_M) (x1 : Int32) : Int64 :=
  if 8 ≤ x1 then
    ((mg_memory S) (gq_ix (x1 - 8))).toInt64
  else
    ((mg_registers S) (gq_ix x1)).toInt64
set_option maxHeartbeats 4000000 in
set_option maxRecDepth 100000 in
theorem c_X7_valueOf (l : Launch) (D : va_G) (cA : ClassId) (a : Nat → Nat) (S : gs_M) (x1 : Int32) (hi24 : vp_in x1 24) : gq_C l yX7_valueOf wsX7_valueOf ({ frames := 0, cells := 0, slots := 0, locals := 0 } : Room) D cA [.ref (a 0), .int x1] (gw_M cA a S) (some (.long (k_X7_valueOf S x1))) (gw_M cA a S) := by
  refine gq_openf (own := RX7) (lv := [(0, .ref (a 0)), (1, .int x1)]) (fun r : Int64 => (some (.long r), gw_M cA a S)) (k_X7_valueOf S x1) (by decide) rfl rfl (Nat.le_of_ble_eq_true rfl) rfl rfl rfl (fun p e s m args below meth c A X => ?_)
  unfold k_X7_valueOf
  refine gq_iload_n X dX7_valueOf_0 1 rfl ?_
  refine gq_bipush (v := 8) X dX7_valueOf_1 (by decide) ?_
  refine gq_ficmp_ge (tgt := 16) X dX7_valueOf_3 (by decide) (fun h3 => ?_) (fun h3 => ?_)
  · refine gq_aload_n X dX7_valueOf_16 0 rfl ?_
    refine gq_get (C := RX7) (T := TX7) (N := 34) X iX7_valueOf_X7 0 gl_M_c0 rfl 6 (by decide) fX7_valueOf_X7_6 rfl dX7_valueOf_17 ?_
    refine gq_iload_n X dX7_valueOf_20 1 rfl ?_
    refine gq_bipush (v := 8) X dX7_valueOf_21 (by decide) ?_
    refine gq_isub X dX7_valueOf_23 ?_
    refine gq_ald X 6 gl_M_c6 (mv_hi hi24 h3) dX7_valueOf_24 ?_
    refine gq_i2l X dX7_valueOf_25 ?_
    exact gq_lretf X dX7_valueOf_26 rfl rfl
  · refine gq_aload_n X dX7_valueOf_6 0 rfl ?_
    refine gq_get (C := RX7) (T := TX7) (N := 34) X iX7_valueOf_X7 0 gl_M_c0 rfl 5 (by decide) fX7_valueOf_X7_5 rfl dX7_valueOf_7 ?_
    refine gq_iload_n X dX7_valueOf_10 1 rfl ?_
    refine gq_ald X 5 gl_M_c5 (mv_lo hi24 h3) dX7_valueOf_11 ?_
    refine gq_i2l X dX7_valueOf_12 ?_
    refine gq_goto (tgt := 26) X dX7_valueOf_13 (by decide) ?_
    exact gq_lretf X dX7_valueOf_26 rfl rfl
theorem iX7_put_X7 : ∀ w ∈ u_ws RX7 TX7 34, w ∈ wsX7_put := by decide +kernel
theorem fX7_put_X7_5 : Cond.fieldLink RX7 22 (TX7 5).1 (TX7 5).2.1 (TX7 5).2.2.1 ∈ wsX7_put := by decide +kernel
theorem fX7_put_X7_6 : Cond.fieldLink RX7 25 (TX7 6).1 (TX7 6).2.1 (TX7 6).2.2.1 ∈ wsX7_put := by decide +kernel
theorem fX7_put_X7_27 : Cond.fieldLink RX7 96 (TX7 27).1 (TX7 27).2.1 (TX7 27).2.2.1 ∈ wsX7_put := by decide +kernel
theorem kX7_put_103 : Cond.constantLong RX7 103 (-101) ∈ wsX7_put := by decide +kernel
theorem kX7_put_105 : Cond.constantLong RX7 105 (-103) ∈ wsX7_put := by decide +kernel
theorem hv_X7_put : yX7_put.cls = RX7 ∧ yX7_put.cls ≠ "java/lang/invoke/MethodHandle" ∧ yX7_put.cls ≠ "java/lang/invoke/VarHandle" ∧ (parseMethodDescriptor yX7_put.desc).map (fun d => d.parameters.length) = some 2 := by decide +kernel
def k_X7_put (S : gs_M) (x1 : Int32) (x2 : Int32) : Int64 × gs_M :=
  if k_X7_in x1 0 23 = true then
    if mg_runs S = true then
      ((-103), S)
    else
      gq_lt (k_X7_valueOf S x1) (fun g1 =>
      if 8 ≤ x1 then
        gq_lt (ms_memory S (upd (mg_memory S) (gq_ix (x1 - 8)) x2)) (fun s2 =>
        (g1, s2))
      else
        gq_lt (ms_registers S (upd (mg_registers S) (gq_ix x1) x2)) (fun s3 =>
        (g1, s3)))
  else
    ((-101), S)
set_option maxHeartbeats 4000000 in
set_option maxRecDepth 100000 in
theorem c_X7_put (l : Launch) (D : va_G) (cA : ClassId) (a : Nat → Nat) (S : gs_M) (x1 : Int32) (x2 : Int32) : gq_C l yX7_put wsX7_put ({ frames := 1, cells := 0, slots := 0, locals := 22 } : Room) D cA [.ref (a 0), .int x1, .int x2] (gw_M cA a S) (some (.long (k_X7_put S x1 x2).1)) (gw_M cA a ((k_X7_put S x1 x2).2)) := by
  refine gq_openf (own := RX7) (lv := [(0, .ref (a 0)), (1, .int x1), (2, .int x2)]) (fun r : Int64 × gs_M => (some (.long r.1), gw_M cA a r.2)) (k_X7_put S x1 x2) (by decide) rfl rfl (Nat.le_of_ble_eq_true rfl) rfl rfl rfl (fun p e s m args below meth c A X => ?_)
  unfold k_X7_put
  refine gq_iload_n X dX7_put_0 1 rfl ?_
  refine gq_iconst (v := 0) X dX7_put_1 gq_i0 ?_
  refine gq_bipush (v := 23) X dX7_put_2 (by decide) ?_
  refine gq_callSr (ws' := gw_M cA a S) X (c_X7_in l D cA x1 0 23) rfl ⟨rfl, rfl⟩ ⟨Nat.le_of_ble_eq_true rfl, Nat.le_of_ble_eq_true rfl⟩ gX7_put_X7_in hd_X7_in [] rfl (by decide) rfl rfl rfl rfl (Nat.le_of_ble_eq_true rfl) ⟨Nat.zero_le _, Nat.zero_le _⟩ dX7_put_4 ?_
  refine gq_fbif_ne (tgt := 14) X dX7_put_7 (by decide) (fun h7 => ?_) (fun h7 => ?_)
  · refine gq_aload_n X dX7_put_14 0 rfl ?_
    refine gq_get (C := RX7) (T := TX7) (N := 34) X iX7_put_X7 0 gl_M_c0 rfl 27 (by decide) fX7_put_X7_27 rfl dX7_put_15 ?_
    refine gq_fbif_eq (tgt := 25) X dX7_put_18 (by decide) (fun h18 => ?_) (fun h18 => ?_)
    · refine gq_ldc2 (v := (-103)) X kX7_put_105 dX7_put_21 ?_
      exact gq_lretf X dX7_put_24 rfl rfl
    · refine gq_aload_n X dX7_put_25 0 rfl ?_
      refine gq_iload_n X dX7_put_26 1 rfl ?_
      refine gq_callVr (ws' := gw_M cA a S) X (c_X7_valueOf l D cA a S x1 (mv_in h7 rfl (by decide))) rfl ⟨rfl, rfl⟩ ⟨Nat.le_of_ble_eq_true rfl, Nat.le_of_ble_eq_true rfl⟩ gX7_put_X7_valueOf hv_X7_valueOf 0 gl_M_c0 rfl [0, 1, 2, 3, 4, 5, 6, 7, 8, 9, 10, 11, 12, 13, 14, 15, 16, 17, 18, 19, 20, 21, 22, 23] gl_M_self_at gl_M_self_nd gl_M_fst gl_M_self_same rfl rfl (Nat.le_of_ble_eq_true rfl) ⟨Nat.zero_le _, Nat.zero_le _⟩ dX7_put_27 ?_
      refine gq_letr (fun g1 eg1 => ?_)
      refine gq_eqst (st' := .long g1 :: _) (by rw [eg1]) ?_
      refine gq_lstore_n (lv' := [(3, .long g1), (0, .ref (a 0)), (1, .int x1), (2, .int x2)]) X dX7_put_30 (by decide) rfl ?_
      refine gq_iload_n X dX7_put_31 2 rfl ?_
      refine gq_bipush (v := 8) X dX7_put_32 (by decide) ?_
      refine gq_ficmp_ge (tgt := 47) X dX7_put_34 (by decide) (fun h34 => ?_) (fun h34 => ?_)
      · refine gq_aload_n X dX7_put_47 1 rfl ?_
        refine gq_get (C := RX7) (T := TX7) (N := 34) X iX7_put_X7 0 gl_M_c0 rfl 6 (by decide) fX7_put_X7_6 rfl dX7_put_48 ?_
        refine gq_iload_n X dX7_put_51 2 rfl ?_
        refine gq_bipush (v := 8) X dX7_put_52 (by decide) ?_
        refine gq_isub X dX7_put_54 ?_
        refine gq_iload_n X dX7_put_55 3 rfl ?_
        refine gq_letr (fun s2 es2 => ?_)
        refine gq_ast (ws' := gw_M cA a s2) X 6 gl_M_c6 (mv_hi (mv_in h7 rfl (by decide)) h34) (by rw [es2]; exact gl_M_a6) dX7_put_56 ?_
        refine gq_lload_n X dX7_put_57 0 rfl ?_
        exact gq_lretf X dX7_put_58 rfl rfl
      · refine gq_aload_n X dX7_put_37 1 rfl ?_
        refine gq_get (C := RX7) (T := TX7) (N := 34) X iX7_put_X7 0 gl_M_c0 rfl 5 (by decide) fX7_put_X7_5 rfl dX7_put_38 ?_
        refine gq_iload_n X dX7_put_41 2 rfl ?_
        refine gq_iload_n X dX7_put_42 3 rfl ?_
        refine gq_letr (fun s3 es3 => ?_)
        refine gq_ast (ws' := gw_M cA a s3) X 5 gl_M_c5 (mv_lo (mv_in h7 rfl (by decide)) h34) (by rw [es3]; exact gl_M_a5) dX7_put_43 ?_
        refine gq_goto (tgt := 57) X dX7_put_44 (by decide) ?_
        refine gq_lload_n X dX7_put_57 0 rfl ?_
        exact gq_lretf X dX7_put_58 rfl rfl
  · refine gq_ldc2 (v := (-101)) X kX7_put_103 dX7_put_10 ?_
    exact gq_lretf X dX7_put_13 rfl rfl
theorem iX7_way_X7 : ∀ w ∈ u_ws RX7 TX7 34, w ∈ wsX7_way := by decide +kernel
theorem fX7_way_X7_9 : Cond.fieldLink RX7 111 (TX7 9).1 (TX7 9).2.1 (TX7 9).2.2.1 ∈ wsX7_way := by decide +kernel
theorem fX7_way_X7_10 : Cond.fieldLink RX7 31 (TX7 10).1 (TX7 10).2.1 (TX7 10).2.2.1 ∈ wsX7_way := by decide +kernel
theorem fX7_way_X7_27 : Cond.fieldLink RX7 96 (TX7 27).1 (TX7 27).2.1 (TX7 27).2.2.1 ∈ wsX7_way := by decide +kernel
theorem hv_X7_way : yX7_way.cls = RX7 ∧ yX7_way.cls ≠ "java/lang/invoke/MethodHandle" ∧ yX7_way.cls ≠ "java/lang/invoke/VarHandle" ∧ (parseMethodDescriptor yX7_way.desc).map (fun d => d.parameters.length) = some 2 := by decide +kernel
def k_X7_way (S : gs_M) (x1 : Int32) (x2 : Int32) : Int32 × gs_M :=
  if k_X7_in x1 0 3 = true then
    if k_X7_in x2 1 6 = true then
      if mg_runs S = true then
        ((-103), S)
      else
        gq_lt (ms_way S x1) (fun s1 =>
        gq_lt (ms_depth s1 x2) (fun s2 =>
        (1, s2)))
    else
      ((-102), S)
  else
    ((-102), S)
set_option maxHeartbeats 4000000 in
set_option maxRecDepth 100000 in
theorem c_X7_way (l : Launch) (D : va_G) (cA : ClassId) (a : Nat → Nat) (S : gs_M) (x1 : Int32) (x2 : Int32) : gq_C l yX7_way wsX7_way ({ frames := 1, cells := 0, slots := 0, locals := 22 } : Room) D cA [.ref (a 0), .int x1, .int x2] (gw_M cA a S) (some (.int (k_X7_way S x1 x2).1)) (gw_M cA a ((k_X7_way S x1 x2).2)) := by
  refine gq_openf (own := RX7) (lv := [(0, .ref (a 0)), (1, .int x1), (2, .int x2)]) (fun r : Int32 × gs_M => (some (.int r.1), gw_M cA a r.2)) (k_X7_way S x1 x2) (by decide) rfl rfl (Nat.le_of_ble_eq_true rfl) rfl rfl rfl (fun p e s m args below meth c A X => ?_)
  unfold k_X7_way
  refine gq_iload_n X dX7_way_0 1 rfl ?_
  refine gq_iconst (v := 0) X dX7_way_1 gq_i0 ?_
  refine gq_iconst (v := 3) X dX7_way_2 gq_i3 ?_
  refine gq_callSr (ws' := gw_M cA a S) X (c_X7_in l D cA x1 0 3) rfl ⟨rfl, rfl⟩ ⟨Nat.le_of_ble_eq_true rfl, Nat.le_of_ble_eq_true rfl⟩ gX7_way_X7_in hd_X7_in [] rfl (by decide) rfl rfl rfl rfl (Nat.le_of_ble_eq_true rfl) ⟨Nat.zero_le _, Nat.zero_le _⟩ dX7_way_3 ?_
  refine gq_fbif_eq (tgt := 19) X dX7_way_6 (by decide) (fun h6 => ?_) (fun h6 => ?_)
  · refine gq_iload_n X dX7_way_9 2 rfl ?_
    refine gq_iconst (v := 1) X dX7_way_10 gq_i1 ?_
    refine gq_bipush (v := 6) X dX7_way_11 (by decide) ?_
    refine gq_callSr (ws' := gw_M cA a S) X (c_X7_in l D cA x2 1 6) rfl ⟨rfl, rfl⟩ ⟨Nat.le_of_ble_eq_true rfl, Nat.le_of_ble_eq_true rfl⟩ gX7_way_X7_in hd_X7_in [] rfl (by decide) rfl rfl rfl rfl (Nat.le_of_ble_eq_true rfl) ⟨Nat.zero_le _, Nat.zero_le _⟩ dX7_way_13 ?_
    refine gq_fbif_ne (tgt := 22) X dX7_way_16 (by decide) (fun h16 => ?_) (fun h16 => ?_)
    · refine gq_aload_n X dX7_way_22 0 rfl ?_
      refine gq_get (C := RX7) (T := TX7) (N := 34) X iX7_way_X7 0 gl_M_c0 rfl 27 (by decide) fX7_way_X7_27 rfl dX7_way_23 ?_
      refine gq_fbif_eq (tgt := 32) X dX7_way_26 (by decide) (fun h26 => ?_) (fun h26 => ?_)
      · refine gq_bipush (v := (-103)) X dX7_way_29 (by decide) ?_
        exact gq_iretf X dX7_way_31 rfl rfl
      · refine gq_aload_n X dX7_way_32 0 rfl ?_
        refine gq_iload_n X dX7_way_33 1 rfl ?_
        refine gq_letr (fun s1 es1 => ?_)
        refine gq_put (C := RX7) (T := TX7) (N := 34) (ws' := gw_M cA a s1) X iX7_way_X7 tyX7 tyX7_ok nmX7 0 gl_M_c0 rfl 9 (by decide) fX7_way_X7_9 rfl rfl rfl (Nat.le_of_ble_eq_true rfl) (by rw [es1]; exact gl_M_f9) dX7_way_34 ?_
        refine gq_aload_n X dX7_way_37 0 rfl ?_
        refine gq_iload_n X dX7_way_38 2 rfl ?_
        refine gq_letr (fun s2 es2 => ?_)
        refine gq_put (C := RX7) (T := TX7) (N := 34) (ws' := gw_M cA a s2) X iX7_way_X7 tyX7 tyX7_ok nmX7 0 gl_M_c0 rfl 10 (by decide) fX7_way_X7_10 rfl rfl rfl (Nat.le_of_ble_eq_true rfl) (by rw [es2]; exact gl_M_f10) dX7_way_39 ?_
        refine gq_iconst (v := 1) X dX7_way_42 gq_i1 ?_
        exact gq_iretf X dX7_way_43 rfl rfl
    · refine gq_bipush (v := (-102)) X dX7_way_19 (by decide) ?_
      exact gq_iretf X dX7_way_21 rfl rfl
  · refine gq_bipush (v := (-102)) X dX7_way_19 (by decide) ?_
    exact gq_iretf X dX7_way_21 rfl rfl
theorem iX7_begin_X7 : ∀ w ∈ u_ws RX7 TX7 34, w ∈ wsX7_begin := by decide +kernel
theorem fX7_begin_X7_8 : Cond.fieldLink RX7 114 (TX7 8).1 (TX7 8).2.1 (TX7 8).2.2.1 ∈ wsX7_begin := by decide +kernel
theorem fX7_begin_X7_19 : Cond.fieldLink RX7 120 (TX7 19).1 (TX7 19).2.1 (TX7 19).2.2.1 ∈ wsX7_begin := by decide +kernel
theorem fX7_begin_X7_20 : Cond.fieldLink RX7 117 (TX7 20).1 (TX7 20).2.1 (TX7 20).2.2.1 ∈ wsX7_begin := by decide +kernel
theorem fX7_begin_X7_27 : Cond.fieldLink RX7 96 (TX7 27).1 (TX7 27).2.1 (TX7 27).2.2.1 ∈ wsX7_begin := by decide +kernel
theorem fX7_begin_X7_28 : Cond.fieldLink RX7 74 (TX7 28).1 (TX7 28).2.1 (TX7 28).2.2.1 ∈ wsX7_begin := by decide +kernel
theorem fX7_begin_X7_29 : Cond.fieldLink RX7 123 (TX7 29).1 (TX7 29).2.1 (TX7 29).2.2.1 ∈ wsX7_begin := by decide +kernel
theorem fX7_begin_X7_30 : Cond.fieldLink RX7 77 (TX7 30).1 (TX7 30).2.1 (TX7 30).2.2.1 ∈ wsX7_begin := by decide +kernel
theorem hv_X7_begin : yX7_begin.cls = RX7 ∧ yX7_begin.cls ≠ "java/lang/invoke/MethodHandle" ∧ yX7_begin.cls ≠ "java/lang/invoke/VarHandle" ∧ (parseMethodDescriptor yX7_begin.desc).map (fun d => d.parameters.length) = some 0 := by decide +kernel
def k_X7_begin (S : gs_M) : Int32 × gs_M :=
  if mg_runs S = true then
    ((-103), S)
  else
    gq_lt (ms_runs S true) (fun s1 =>
    gq_lt (ms_ended s1 0) (fun s2 =>
    gq_lt (ms_deep s2 0) (fun s3 =>
    gq_lt (ms_fetched s3 0) (fun s4 =>
    gq_lt (ms_returned s4 0) (fun s5 =>
    gq_lt (ms_place s5 0) (fun s6 =>
    gq_lt (ms_counts s6 (upd (mg_counts s6) (gq_ix 0) 0)) (fun s7 =>
    gq_lt (ms_counts s7 (upd (mg_counts s7) (gq_ix 1) 0)) (fun s8 =>
    gq_lt (ms_counts s8 (upd (mg_counts s8) (gq_ix 2) 0)) (fun s9 =>
    gq_lt (ms_counts s9 (upd (mg_counts s9) (gq_ix 3) 0)) (fun s10 =>
    gq_lt (ms_counts s10 (upd (mg_counts s10) (gq_ix 4) 0)) (fun s11 =>
    gq_lt (ms_counts s11 (upd (mg_counts s11) (gq_ix 5) 0)) (fun s12 =>
    gq_lt (ms_counts s12 (upd (mg_counts s12) (gq_ix 6) 0)) (fun s13 =>
    gq_lt (ms_counts s13 (upd (mg_counts s13) (gq_ix 7) 0)) (fun s14 =>
    gq_lt (ms_counts s14 (upd (mg_counts s14) (gq_ix 8) 0)) (fun s15 =>
    gq_lt (ms_counts s15 (upd (mg_counts s15) (gq_ix 12) (((mg_counts s15) (gq_ix 12)) + 1))) (fun s16 =>
    (1, s16)))))))))))))))))
set_option maxHeartbeats 4000000 in
set_option maxRecDepth 100000 in
theorem c_X7_begin (l : Launch) (D : va_G) (cA : ClassId) (a : Nat → Nat) (S : gs_M)  : gq_C l yX7_begin wsX7_begin ({ frames := 0, cells := 0, slots := 0, locals := 0 } : Room) D cA [.ref (a 0)] (gw_M cA a S) (some (.int (k_X7_begin S).1)) (gw_M cA a ((k_X7_begin S).2)) := by
  refine gq_openf (own := RX7) (lv := [(0, .ref (a 0))]) (fun r : Int32 × gs_M => (some (.int r.1), gw_M cA a r.2)) (k_X7_begin S) (by decide) rfl rfl (Nat.le_of_ble_eq_true rfl) rfl rfl rfl (fun p e s m args below meth c A X => ?_)
  unfold k_X7_begin
  refine gq_aload_n X dX7_begin_0 0 rfl ?_
  refine gq_get (C := RX7) (T := TX7) (N := 34) X iX7_begin_X7 0 gl_M_c0 rfl 27 (by decide) fX7_begin_X7_27 rfl dX7_begin_1 ?_
  refine gq_fbif_eq (tgt := 10) X dX7_begin_4 (by decide) (fun h4 => ?_) (fun h4 => ?_)
  · refine gq_bipush (v := (-103)) X dX7_begin_7 (by decide) ?_
    exact gq_iretf X dX7_begin_9 rfl rfl
  · refine gq_aload_n X dX7_begin_10 0 rfl ?_
    refine gq_iconst (v := 1) X dX7_begin_11 gq_i1 ?_
    refine gq_letr (fun s1 es1 => ?_)
    refine gq_put (C := RX7) (T := TX7) (N := 34) (ws' := gw_M cA a s1) X iX7_begin_X7 tyX7 tyX7_ok nmX7 0 gl_M_c0 rfl 27 (by decide) fX7_begin_X7_27 rfl rfl rfl (Nat.le_of_ble_eq_true rfl) (by rw [es1]; rfl) dX7_begin_12 ?_
    refine gq_aload_n X dX7_begin_15 0 rfl ?_
    refine gq_iconst (v := 0) X dX7_begin_16 gq_i0 ?_
    refine gq_letr (fun s2 es2 => ?_)
    refine gq_put (C := RX7) (T := TX7) (N := 34) (ws' := gw_M cA a s2) X iX7_begin_X7 tyX7 tyX7_ok nmX7 0 gl_M_c0 rfl 28 (by decide) fX7_begin_X7_28 rfl rfl rfl (Nat.le_of_ble_eq_true rfl) (by rw [es2]; exact gl_M_f28) dX7_begin_17 ?_
    refine gq_aload_n X dX7_begin_20 0 rfl ?_
    refine gq_iconst (v := 0) X dX7_begin_21 gq_i0 ?_
    refine gq_letr (fun s3 es3 => ?_)
    refine gq_put (C := RX7) (T := TX7) (N := 34) (ws' := gw_M cA a s3) X iX7_begin_X7 tyX7 tyX7_ok nmX7 0 gl_M_c0 rfl 8 (by decide) fX7_begin_X7_8 rfl rfl rfl (Nat.le_of_ble_eq_true rfl) (by rw [es3]; exact gl_M_f8) dX7_begin_22 ?_
    refine gq_aload_n X dX7_begin_25 0 rfl ?_
    refine gq_iconst (v := 0) X dX7_begin_26 gq_i0 ?_
    refine gq_letr (fun s4 es4 => ?_)
    refine gq_put (C := RX7) (T := TX7) (N := 34) (ws' := gw_M cA a s4) X iX7_begin_X7 tyX7 tyX7_ok nmX7 0 gl_M_c0 rfl 20 (by decide) fX7_begin_X7_20 rfl rfl rfl (Nat.le_of_ble_eq_true rfl) (by rw [es4]; exact gl_M_f20) dX7_begin_27 ?_
    refine gq_aload_n X dX7_begin_30 0 rfl ?_
    refine gq_iconst (v := 0) X dX7_begin_31 gq_i0 ?_
    refine gq_letr (fun s5 es5 => ?_)
    refine gq_put (C := RX7) (T := TX7) (N := 34) (ws' := gw_M cA a s5) X iX7_begin_X7 tyX7 tyX7_ok nmX7 0 gl_M_c0 rfl 19 (by decide) fX7_begin_X7_19 rfl rfl rfl (Nat.le_of_ble_eq_true rfl) (by rw [es5]; exact gl_M_f19) dX7_begin_32 ?_
    refine gq_aload_n X dX7_begin_35 0 rfl ?_
    refine gq_iconst (v := 0) X dX7_begin_36 gq_i0 ?_
    refine gq_letr (fun s6 es6 => ?_)
    refine gq_put (C := RX7) (T := TX7) (N := 34) (ws' := gw_M cA a s6) X iX7_begin_X7 tyX7 tyX7_ok nmX7 0 gl_M_c0 rfl 29 (by decide) fX7_begin_X7_29 rfl rfl rfl (Nat.le_of_ble_eq_true rfl) (by rw [es6]; exact gl_M_f29) dX7_begin_37 ?_
    refine gq_iconst (v := 0) X dX7_begin_40 gq_i0 ?_
    refine gq_istore_n (lv' := [(1, .int 0), (0, .ref (a 0))]) X dX7_begin_41 (by decide) rfl ?_
    refine gq_iload_n X dX7_begin_42 0 rfl ?_
    refine gq_bipush (v := 9) X dX7_begin_43 (by decide) ?_
    refine gq_icmp_ge (tgt := 61) X dX7_begin_45 (by decide) (fun h => absurd h (by decide)) (fun _ => ?_)
    refine gq_aload_n X dX7_begin_48 1 rfl ?_
    refine gq_get (C := RX7) (T := TX7) (N := 34) X iX7_begin_X7 0 gl_M_c0 rfl 30 (by decide) fX7_begin_X7_30 rfl dX7_begin_49 ?_
    refine gq_iload_n X dX7_begin_52 0 rfl ?_
    refine gq_iconst (v := 0) X dX7_begin_53 gq_i0 ?_
    refine gq_letr (fun s7 es7 => ?_)
    refine gq_ast (ws' := gw_M cA a s7) X 21 gl_M_c21 (by unfold vp_in; decide) (by rw [es7]; exact gl_M_a21) dX7_begin_54 ?_
    refine gq_iinc (lv' := [(1, .int 1), (0, .ref (a 0))]) X dX7_begin_55 0 rfl (by decide) (by decide) rfl ?_
    refine gq_goto (tgt := 42) X dX7_begin_58 (by decide) ?_
    refine gq_iload_n X dX7_begin_42 0 rfl ?_
    refine gq_bipush (v := 9) X dX7_begin_43 (by decide) ?_
    refine gq_icmp_ge (tgt := 61) X dX7_begin_45 (by decide) (fun h => absurd h (by decide)) (fun _ => ?_)
    refine gq_aload_n X dX7_begin_48 1 rfl ?_
    refine gq_get (C := RX7) (T := TX7) (N := 34) X iX7_begin_X7 0 gl_M_c0 rfl 30 (by decide) fX7_begin_X7_30 rfl dX7_begin_49 ?_
    refine gq_iload_n X dX7_begin_52 0 rfl ?_
    refine gq_iconst (v := 0) X dX7_begin_53 gq_i0 ?_
    refine gq_letr (fun s8 es8 => ?_)
    refine gq_ast (ws' := gw_M cA a s8) X 21 gl_M_c21 (by unfold vp_in; decide) (by rw [es8]; exact gl_M_a21) dX7_begin_54 ?_
    refine gq_iinc (lv' := [(1, .int 2), (0, .ref (a 0))]) X dX7_begin_55 0 rfl (by decide) (by decide) rfl ?_
    refine gq_goto (tgt := 42) X dX7_begin_58 (by decide) ?_
    refine gq_iload_n X dX7_begin_42 0 rfl ?_
    refine gq_bipush (v := 9) X dX7_begin_43 (by decide) ?_
    refine gq_icmp_ge (tgt := 61) X dX7_begin_45 (by decide) (fun h => absurd h (by decide)) (fun _ => ?_)
    refine gq_aload_n X dX7_begin_48 1 rfl ?_
    refine gq_get (C := RX7) (T := TX7) (N := 34) X iX7_begin_X7 0 gl_M_c0 rfl 30 (by decide) fX7_begin_X7_30 rfl dX7_begin_49 ?_
    refine gq_iload_n X dX7_begin_52 0 rfl ?_
    refine gq_iconst (v := 0) X dX7_begin_53 gq_i0 ?_
    refine gq_letr (fun s9 es9 => ?_)
    refine gq_ast (ws' := gw_M cA a s9) X 21 gl_M_c21 (by unfold vp_in; decide) (by rw [es9]; exact gl_M_a21) dX7_begin_54 ?_
    refine gq_iinc (lv' := [(1, .int 3), (0, .ref (a 0))]) X dX7_begin_55 0 rfl (by decide) (by decide) rfl ?_
    refine gq_goto (tgt := 42) X dX7_begin_58 (by decide) ?_
    refine gq_iload_n X dX7_begin_42 0 rfl ?_
    refine gq_bipush (v := 9) X dX7_begin_43 (by decide) ?_
    refine gq_icmp_ge (tgt := 61) X dX7_begin_45 (by decide) (fun h => absurd h (by decide)) (fun _ => ?_)
    refine gq_aload_n X dX7_begin_48 1 rfl ?_
    refine gq_get (C := RX7) (T := TX7) (N := 34) X iX7_begin_X7 0 gl_M_c0 rfl 30 (by decide) fX7_begin_X7_30 rfl dX7_begin_49 ?_
    refine gq_iload_n X dX7_begin_52 0 rfl ?_
    refine gq_iconst (v := 0) X dX7_begin_53 gq_i0 ?_
    refine gq_letr (fun s10 es10 => ?_)
    refine gq_ast (ws' := gw_M cA a s10) X 21 gl_M_c21 (by unfold vp_in; decide) (by rw [es10]; exact gl_M_a21) dX7_begin_54 ?_
    refine gq_iinc (lv' := [(1, .int 4), (0, .ref (a 0))]) X dX7_begin_55 0 rfl (by decide) (by decide) rfl ?_
    refine gq_goto (tgt := 42) X dX7_begin_58 (by decide) ?_
    refine gq_iload_n X dX7_begin_42 0 rfl ?_
    refine gq_bipush (v := 9) X dX7_begin_43 (by decide) ?_
    refine gq_icmp_ge (tgt := 61) X dX7_begin_45 (by decide) (fun h => absurd h (by decide)) (fun _ => ?_)
    refine gq_aload_n X dX7_begin_48 1 rfl ?_
    refine gq_get (C := RX7) (T := TX7) (N := 34) X iX7_begin_X7 0 gl_M_c0 rfl 30 (by decide) fX7_begin_X7_30 rfl dX7_begin_49 ?_
    refine gq_iload_n X dX7_begin_52 0 rfl ?_
    refine gq_iconst (v := 0) X dX7_begin_53 gq_i0 ?_
    refine gq_letr (fun s11 es11 => ?_)
    refine gq_ast (ws' := gw_M cA a s11) X 21 gl_M_c21 (by unfold vp_in; decide) (by rw [es11]; exact gl_M_a21) dX7_begin_54 ?_
    refine gq_iinc (lv' := [(1, .int 5), (0, .ref (a 0))]) X dX7_begin_55 0 rfl (by decide) (by decide) rfl ?_
    refine gq_goto (tgt := 42) X dX7_begin_58 (by decide) ?_
    refine gq_iload_n X dX7_begin_42 0 rfl ?_
    refine gq_bipush (v := 9) X dX7_begin_43 (by decide) ?_
    refine gq_icmp_ge (tgt := 61) X dX7_begin_45 (by decide) (fun h => absurd h (by decide)) (fun _ => ?_)
    refine gq_aload_n X dX7_begin_48 1 rfl ?_
    refine gq_get (C := RX7) (T := TX7) (N := 34) X iX7_begin_X7 0 gl_M_c0 rfl 30 (by decide) fX7_begin_X7_30 rfl dX7_begin_49 ?_
    refine gq_iload_n X dX7_begin_52 0 rfl ?_
    refine gq_iconst (v := 0) X dX7_begin_53 gq_i0 ?_
    refine gq_letr (fun s12 es12 => ?_)
    refine gq_ast (ws' := gw_M cA a s12) X 21 gl_M_c21 (by unfold vp_in; decide) (by rw [es12]; exact gl_M_a21) dX7_begin_54 ?_
    refine gq_iinc (lv' := [(1, .int 6), (0, .ref (a 0))]) X dX7_begin_55 0 rfl (by decide) (by decide) rfl ?_
    refine gq_goto (tgt := 42) X dX7_begin_58 (by decide) ?_
    refine gq_iload_n X dX7_begin_42 0 rfl ?_
    refine gq_bipush (v := 9) X dX7_begin_43 (by decide) ?_
    refine gq_icmp_ge (tgt := 61) X dX7_begin_45 (by decide) (fun h => absurd h (by decide)) (fun _ => ?_)
    refine gq_aload_n X dX7_begin_48 1 rfl ?_
    refine gq_get (C := RX7) (T := TX7) (N := 34) X iX7_begin_X7 0 gl_M_c0 rfl 30 (by decide) fX7_begin_X7_30 rfl dX7_begin_49 ?_
    refine gq_iload_n X dX7_begin_52 0 rfl ?_
    refine gq_iconst (v := 0) X dX7_begin_53 gq_i0 ?_
    refine gq_letr (fun s13 es13 => ?_)
    refine gq_ast (ws' := gw_M cA a s13) X 21 gl_M_c21 (by unfold vp_in; decide) (by rw [es13]; exact gl_M_a21) dX7_begin_54 ?_
    refine gq_iinc (lv' := [(1, .int 7), (0, .ref (a 0))]) X dX7_begin_55 0 rfl (by decide) (by decide) rfl ?_
    refine gq_goto (tgt := 42) X dX7_begin_58 (by decide) ?_
    refine gq_iload_n X dX7_begin_42 0 rfl ?_
    refine gq_bipush (v := 9) X dX7_begin_43 (by decide) ?_
    refine gq_icmp_ge (tgt := 61) X dX7_begin_45 (by decide) (fun h => absurd h (by decide)) (fun _ => ?_)
    refine gq_aload_n X dX7_begin_48 1 rfl ?_
    refine gq_get (C := RX7) (T := TX7) (N := 34) X iX7_begin_X7 0 gl_M_c0 rfl 30 (by decide) fX7_begin_X7_30 rfl dX7_begin_49 ?_
    refine gq_iload_n X dX7_begin_52 0 rfl ?_
    refine gq_iconst (v := 0) X dX7_begin_53 gq_i0 ?_
    refine gq_letr (fun s14 es14 => ?_)
    refine gq_ast (ws' := gw_M cA a s14) X 21 gl_M_c21 (by unfold vp_in; decide) (by rw [es14]; exact gl_M_a21) dX7_begin_54 ?_
    refine gq_iinc (lv' := [(1, .int 8), (0, .ref (a 0))]) X dX7_begin_55 0 rfl (by decide) (by decide) rfl ?_
    refine gq_goto (tgt := 42) X dX7_begin_58 (by decide) ?_
    refine gq_iload_n X dX7_begin_42 0 rfl ?_
    refine gq_bipush (v := 9) X dX7_begin_43 (by decide) ?_
    refine gq_icmp_ge (tgt := 61) X dX7_begin_45 (by decide) (fun h => absurd h (by decide)) (fun _ => ?_)
    refine gq_aload_n X dX7_begin_48 1 rfl ?_
    refine gq_get (C := RX7) (T := TX7) (N := 34) X iX7_begin_X7 0 gl_M_c0 rfl 30 (by decide) fX7_begin_X7_30 rfl dX7_begin_49 ?_
    refine gq_iload_n X dX7_begin_52 0 rfl ?_
    refine gq_iconst (v := 0) X dX7_begin_53 gq_i0 ?_
    refine gq_letr (fun s15 es15 => ?_)
    refine gq_ast (ws' := gw_M cA a s15) X 21 gl_M_c21 (by unfold vp_in; decide) (by rw [es15]; exact gl_M_a21) dX7_begin_54 ?_
    refine gq_iinc (lv' := [(1, .int 9), (0, .ref (a 0))]) X dX7_begin_55 0 rfl (by decide) (by decide) rfl ?_
    refine gq_goto (tgt := 42) X dX7_begin_58 (by decide) ?_
    refine gq_iload_n X dX7_begin_42 0 rfl ?_
    refine gq_bipush (v := 9) X dX7_begin_43 (by decide) ?_
    refine gq_icmp_ge (tgt := 61) X dX7_begin_45 (by decide) (fun _ => ?_) (fun h => absurd (by decide) h)
    refine gq_aload_n X dX7_begin_61 1 rfl ?_
    refine gq_get (C := RX7) (T := TX7) (N := 34) X iX7_begin_X7 0 gl_M_c0 rfl 30 (by decide) fX7_begin_X7_30 rfl dX7_begin_62 ?_
    refine gq_bipush (v := 12) X dX7_begin_65 (by decide) ?_
    refine gq_dup2 X dX7_begin_67 rfl rfl ?_
    refine gq_ald X 21 gl_M_c21 (by unfold vp_in; decide) dX7_begin_68 ?_
    refine gq_iconst (v := 1) X dX7_begin_69 gq_i1 ?_
    refine gq_iadd X dX7_begin_70 ?_
    refine gq_letr (fun s16 es16 => ?_)
    refine gq_ast (ws' := gw_M cA a s16) X 21 gl_M_c21 (by unfold vp_in; decide) (by rw [es16]; exact gl_M_a21) dX7_begin_71 ?_
    refine gq_iconst (v := 1) X dX7_begin_72 gq_i1 ?_
    exact gq_iretf X dX7_begin_73 rfl rfl
theorem iX7_stop_X7 : ∀ w ∈ u_ws RX7 TX7 34, w ∈ wsX7_stop := by decide +kernel
theorem fX7_stop_X7_27 : Cond.fieldLink RX7 96 (TX7 27).1 (TX7 27).2.1 (TX7 27).2.2.1 ∈ wsX7_stop := by decide +kernel
theorem fX7_stop_X7_30 : Cond.fieldLink RX7 77 (TX7 30).1 (TX7 30).2.1 (TX7 30).2.2.1 ∈ wsX7_stop := by decide +kernel
theorem hv_X7_stop : yX7_stop.cls = RX7 ∧ yX7_stop.cls ≠ "java/lang/invoke/MethodHandle" ∧ yX7_stop.cls ≠ "java/lang/invoke/VarHandle" ∧ (parseMethodDescriptor yX7_stop.desc).map (fun d => d.parameters.length) = some 0 := by decide +kernel
def k_X7_stop (S : gs_M) : Int32 × gs_M :=
  if mg_runs S = true then
    gq_lt (k_X7_finish S 3) (fun s1 =>
    ((mg_counts s1) (gq_ix 1), s1))
  else
    ((-103), S)
set_option maxHeartbeats 4000000 in
set_option maxRecDepth 100000 in
theorem c_X7_stop (l : Launch) (D : va_G) (cA : ClassId) (a : Nat → Nat) (S : gs_M)  : gq_C l yX7_stop wsX7_stop ({ frames := 1, cells := 0, slots := 0, locals := 21 } : Room) D cA [.ref (a 0)] (gw_M cA a S) (some (.int (k_X7_stop S).1)) (gw_M cA a ((k_X7_stop S).2)) := by
  refine gq_openf (own := RX7) (lv := [(0, .ref (a 0))]) (fun r : Int32 × gs_M => (some (.int r.1), gw_M cA a r.2)) (k_X7_stop S) (by decide) rfl rfl (Nat.le_of_ble_eq_true rfl) rfl rfl rfl (fun p e s m args below meth c A X => ?_)
  unfold k_X7_stop
  refine gq_aload_n X dX7_stop_0 0 rfl ?_
  refine gq_get (C := RX7) (T := TX7) (N := 34) X iX7_stop_X7 0 gl_M_c0 rfl 27 (by decide) fX7_stop_X7_27 rfl dX7_stop_1 ?_
  refine gq_fbif_ne (tgt := 10) X dX7_stop_4 (by decide) (fun h4 => ?_) (fun h4 => ?_)
  · refine gq_aload_n X dX7_stop_10 0 rfl ?_
    refine gq_iconst (v := 3) X dX7_stop_11 gq_i3 ?_
    refine gq_letr (fun s1 es1 => ?_)
    refine gq_callVv (ws' := gw_M cA a s1) X (c_X7_finish l D cA a S 3) rfl ⟨rfl, rfl⟩ ⟨Nat.le_of_ble_eq_true rfl, Nat.le_of_ble_eq_true rfl⟩ gX7_stop_X7_finish hv_X7_finish 0 gl_M_c0 rfl [0, 1, 2, 3, 4, 5, 6, 7, 8, 9, 10, 11, 12, 13, 14, 15, 16, 17, 18, 19, 20, 21, 22, 23] gl_M_self_at gl_M_self_nd gl_M_fst (by rw [es1]; exact gl_M_self_set) rfl rfl (Nat.le_of_ble_eq_true rfl) ⟨Nat.zero_le _, Nat.zero_le _⟩ dX7_stop_12 ?_
    refine gq_aload_n X dX7_stop_15 0 rfl ?_
    refine gq_get (C := RX7) (T := TX7) (N := 34) X iX7_stop_X7 0 gl_M_c0 rfl 30 (by decide) fX7_stop_X7_30 rfl dX7_stop_16 ?_
    refine gq_iconst (v := 1) X dX7_stop_19 gq_i1 ?_
    refine gq_ald X 21 gl_M_c21 (by unfold vp_in; decide) dX7_stop_20 ?_
    exact gq_iretf X dX7_stop_21 rfl rfl
  · refine gq_bipush (v := (-103)) X dX7_stop_7 (by decide) ?_
    exact gq_iretf X dX7_stop_9 rfl rfl
theorem iX7_ended_X7 : ∀ w ∈ u_ws RX7 TX7 34, w ∈ wsX7_ended := by decide +kernel
theorem fX7_ended_X7_28 : Cond.fieldLink RX7 74 (TX7 28).1 (TX7 28).2.1 (TX7 28).2.2.1 ∈ wsX7_ended := by decide +kernel
theorem hv_X7_ended : yX7_ended.cls = RX7 ∧ yX7_ended.cls ≠ "java/lang/invoke/MethodHandle" ∧ yX7_ended.cls ≠ "java/lang/invoke/VarHandle" ∧ (parseMethodDescriptor yX7_ended.desc).map (fun d => d.parameters.length) = some 0 := by decide +kernel
def k_X7_ended (S : gs_M) : Int32 :=
  mg_ended S
set_option maxHeartbeats 4000000 in
set_option maxRecDepth 100000 in
theorem c_X7_ended (l : Launch) (D : va_G) (cA : ClassId) (a : Nat → Nat) (S : gs_M)  : gq_C l yX7_ended wsX7_ended ({ frames := 0, cells := 0, slots := 0, locals := 0 } : Room) D cA [.ref (a 0)] (gw_M cA a S) (some (.int (k_X7_ended S))) (gw_M cA a S) := by
  refine gq_openf (own := RX7) (lv := [(0, .ref (a 0))]) (fun r : Int32 => (some (.int r), gw_M cA a S)) (k_X7_ended S) (by decide) rfl rfl (Nat.le_of_ble_eq_true rfl) rfl rfl rfl (fun p e s m args below meth c A X => ?_)
  unfold k_X7_ended
  refine gq_aload_n X dX7_ended_0 0 rfl ?_
  refine gq_get (C := RX7) (T := TX7) (N := 34) X iX7_ended_X7 0 gl_M_c0 rfl 28 (by decide) fX7_ended_X7_28 rfl dX7_ended_1 ?_
  exact gq_iretf X dX7_ended_4 rfl rfl
theorem iX7_tableOf_X7 : ∀ w ∈ u_ws RX7 TX7 34, w ∈ wsX7_tableOf := by decide +kernel
theorem fX7_tableOf_X7_11 : Cond.fieldLink RX7 35 (TX7 11).1 (TX7 11).2.1 (TX7 11).2.2.1 ∈ wsX7_tableOf := by decide +kernel
theorem fX7_tableOf_X7_12 : Cond.fieldLink RX7 38 (TX7 12).1 (TX7 12).2.1 (TX7 12).2.2.1 ∈ wsX7_tableOf := by decide +kernel
theorem fX7_tableOf_X7_13 : Cond.fieldLink RX7 41 (TX7 13).1 (TX7 13).2.1 (TX7 13).2.2.1 ∈ wsX7_tableOf := by decide +kernel
theorem fX7_tableOf_X7_14 : Cond.fieldLink RX7 89 (TX7 14).1 (TX7 14).2.1 (TX7 14).2.2.1 ∈ wsX7_tableOf := by decide +kernel
theorem fX7_tableOf_X7_15 : Cond.fieldLink RX7 44 (TX7 15).1 (TX7 15).2.1 (TX7 15).2.2.1 ∈ wsX7_tableOf := by decide +kernel
theorem fX7_tableOf_X7_16 : Cond.fieldLink RX7 47 (TX7 16).1 (TX7 16).2.1 (TX7 16).2.2.1 ∈ wsX7_tableOf := by decide +kernel
theorem fX7_tableOf_X7_17 : Cond.fieldLink RX7 50 (TX7 17).1 (TX7 17).2.1 (TX7 17).2.2.1 ∈ wsX7_tableOf := by decide +kernel
theorem fX7_tableOf_X7_18 : Cond.fieldLink RX7 53 (TX7 18).1 (TX7 18).2.1 (TX7 18).2.2.1 ∈ wsX7_tableOf := by decide +kernel
theorem fX7_tableOf_X7_19 : Cond.fieldLink RX7 120 (TX7 19).1 (TX7 19).2.1 (TX7 19).2.2.1 ∈ wsX7_tableOf := by decide +kernel
theorem hv_X7_tableOf : yX7_tableOf.cls = RX7 ∧ yX7_tableOf.cls ≠ "java/lang/invoke/MethodHandle" ∧ yX7_tableOf.cls ≠ "java/lang/invoke/VarHandle" ∧ (parseMethodDescriptor yX7_tableOf.desc).map (fun d => d.parameters.length) = some 2 := by decide +kernel
def k_X7_tableOf (S : gs_M) (x1 : Int32) (x2 : Int32) : Int32 :=
  if x1 = 0 then
    (mg_plain S) (gq_ix x2)
  else
    if x1 = 1 then
      (mg_mixed S) (gq_ix x2)
    else
      if x1 = 2 then
        (mg_choice S) (gq_ix x2)
      else
        if x1 = 3 then
          (mg_targetAt S) (gq_ix x2)
        else
          if x1 = 4 then
            (mg_targetKind S) (gq_ix x2)
          else
            if x1 = 5 then
              (mg_target S) (gq_ix x2)
            else
              if x1 = 6 then
                mg_history S
              else
                if x1 = 7 then
                  if k_X7_in x2 0 ((mg_returned S) - 1) = true then
                    (mg_returns S) (gq_ix x2)
                  else
                    (-1)
                else
                  mg_returned S
set_option maxHeartbeats 4000000 in
set_option maxRecDepth 100000 in
theorem c_X7_tableOf (l : Launch) (D : va_G) (cA : ClassId) (a : Nat → Nat) (S : gs_M) (x1 : Int32) (x2 : Int32) (t16 : x1 = 0 ∨ x1 = 1 ∨ x1 = 2 → vp_in x2 16) (t8 : x1 = 3 ∨ x1 = 4 ∨ x1 = 5 → vp_in x2 8) (hr : vp_in (mg_returned S) 5) : gq_C l yX7_tableOf wsX7_tableOf ({ frames := 1, cells := 0, slots := 0, locals := 22 } : Room) D cA [.ref (a 0), .int x1, .int x2] (gw_M cA a S) (some (.int (k_X7_tableOf S x1 x2))) (gw_M cA a S) := by
  refine gq_openf (own := RX7) (lv := [(0, .ref (a 0)), (1, .int x1), (2, .int x2)]) (fun r : Int32 => (some (.int r), gw_M cA a S)) (k_X7_tableOf S x1 x2) (by decide) rfl rfl (Nat.le_of_ble_eq_true rfl) rfl rfl rfl (fun p e s m args below meth c A X => ?_)
  unfold k_X7_tableOf
  refine gq_iload_n X dX7_tableOf_0 1 rfl ?_
  refine gq_ite (fun h1_0 => ?_) (fun h1_0 => ?_)
  · refine gq_tin (k := 0) (off := 47) (tgt := 48) X dX7_tableOf_1 h1_0 (by decide) (by decide) (by decide) (by decide) ?_
    refine gq_aload_n X dX7_tableOf_48 0 rfl ?_
    refine gq_get (C := RX7) (T := TX7) (N := 34) X iX7_tableOf_X7 0 gl_M_c0 rfl 11 (by decide) fX7_tableOf_X7_11 rfl dX7_tableOf_49 ?_
    refine gq_iload_n X dX7_tableOf_52 2 rfl ?_
    refine gq_ald X 8 gl_M_c8 (t16 (Or.inl h1_0)) dX7_tableOf_53 ?_
    exact gq_iretf X dX7_tableOf_54 rfl rfl
  · refine gq_ite (fun h1_1 => ?_) (fun h1_1 => ?_)
    · refine gq_tin (k := 1) (off := 54) (tgt := 55) X dX7_tableOf_1 h1_1 (by decide) (by decide) (by decide) (by decide) ?_
      refine gq_aload_n X dX7_tableOf_55 0 rfl ?_
      refine gq_get (C := RX7) (T := TX7) (N := 34) X iX7_tableOf_X7 0 gl_M_c0 rfl 12 (by decide) fX7_tableOf_X7_12 rfl dX7_tableOf_56 ?_
      refine gq_iload_n X dX7_tableOf_59 2 rfl ?_
      refine gq_ald X 9 gl_M_c9 (t16 (Or.inr (Or.inl h1_1))) dX7_tableOf_60 ?_
      exact gq_iretf X dX7_tableOf_61 rfl rfl
    · refine gq_ite (fun h1_2 => ?_) (fun h1_2 => ?_)
      · refine gq_tin (k := 2) (off := 61) (tgt := 62) X dX7_tableOf_1 h1_2 (by decide) (by decide) (by decide) (by decide) ?_
        refine gq_aload_n X dX7_tableOf_62 0 rfl ?_
        refine gq_get (C := RX7) (T := TX7) (N := 34) X iX7_tableOf_X7 0 gl_M_c0 rfl 13 (by decide) fX7_tableOf_X7_13 rfl dX7_tableOf_63 ?_
        refine gq_iload_n X dX7_tableOf_66 2 rfl ?_
        refine gq_ald X 10 gl_M_c10 (t16 (Or.inr (Or.inr h1_2))) dX7_tableOf_67 ?_
        exact gq_iretf X dX7_tableOf_68 rfl rfl
      · refine gq_ite (fun h1_3 => ?_) (fun h1_3 => ?_)
        · refine gq_tin (k := 3) (off := 68) (tgt := 69) X dX7_tableOf_1 h1_3 (by decide) (by decide) (by decide) (by decide) ?_
          refine gq_aload_n X dX7_tableOf_69 0 rfl ?_
          refine gq_get (C := RX7) (T := TX7) (N := 34) X iX7_tableOf_X7 0 gl_M_c0 rfl 15 (by decide) fX7_tableOf_X7_15 rfl dX7_tableOf_70 ?_
          refine gq_iload_n X dX7_tableOf_73 2 rfl ?_
          refine gq_ald X 11 gl_M_c11 (t8 (Or.inl h1_3)) dX7_tableOf_74 ?_
          exact gq_iretf X dX7_tableOf_75 rfl rfl
        · refine gq_ite (fun h1_4 => ?_) (fun h1_4 => ?_)
          · refine gq_tin (k := 4) (off := 75) (tgt := 76) X dX7_tableOf_1 h1_4 (by decide) (by decide) (by decide) (by decide) ?_
            refine gq_aload_n X dX7_tableOf_76 0 rfl ?_
            refine gq_get (C := RX7) (T := TX7) (N := 34) X iX7_tableOf_X7 0 gl_M_c0 rfl 16 (by decide) fX7_tableOf_X7_16 rfl dX7_tableOf_77 ?_
            refine gq_iload_n X dX7_tableOf_80 2 rfl ?_
            refine gq_ald X 12 gl_M_c12 (t8 (Or.inr (Or.inl h1_4))) dX7_tableOf_81 ?_
            exact gq_iretf X dX7_tableOf_82 rfl rfl
          · refine gq_ite (fun h1_5 => ?_) (fun h1_5 => ?_)
            · refine gq_tin (k := 5) (off := 82) (tgt := 83) X dX7_tableOf_1 h1_5 (by decide) (by decide) (by decide) (by decide) ?_
              refine gq_aload_n X dX7_tableOf_83 0 rfl ?_
              refine gq_get (C := RX7) (T := TX7) (N := 34) X iX7_tableOf_X7 0 gl_M_c0 rfl 17 (by decide) fX7_tableOf_X7_17 rfl dX7_tableOf_84 ?_
              refine gq_iload_n X dX7_tableOf_87 2 rfl ?_
              refine gq_ald X 13 gl_M_c13 (t8 (Or.inr (Or.inr h1_5))) dX7_tableOf_88 ?_
              exact gq_iretf X dX7_tableOf_89 rfl rfl
            · refine gq_ite (fun h1_6 => ?_) (fun h1_6 => ?_)
              · refine gq_tin (k := 6) (off := 89) (tgt := 90) X dX7_tableOf_1 h1_6 (by decide) (by decide) (by decide) (by decide) ?_
                refine gq_aload_n X dX7_tableOf_90 0 rfl ?_
                refine gq_get (C := RX7) (T := TX7) (N := 34) X iX7_tableOf_X7 0 gl_M_c0 rfl 14 (by decide) fX7_tableOf_X7_14 rfl dX7_tableOf_91 ?_
                exact gq_iretf X dX7_tableOf_94 rfl rfl
              · refine gq_ite (fun h1_7 => ?_) (fun h1_7 => ?_)
                · refine gq_tin (k := 7) (off := 94) (tgt := 95) X dX7_tableOf_1 h1_7 (by decide) (by decide) (by decide) (by decide) ?_
                  refine gq_iload_n X dX7_tableOf_95 2 rfl ?_
                  refine gq_iconst (v := 0) X dX7_tableOf_96 gq_i0 ?_
                  refine gq_aload_n X dX7_tableOf_97 0 rfl ?_
                  refine gq_get (C := RX7) (T := TX7) (N := 34) X iX7_tableOf_X7 0 gl_M_c0 rfl 19 (by decide) fX7_tableOf_X7_19 rfl dX7_tableOf_98 ?_
                  refine gq_iconst (v := 1) X dX7_tableOf_101 gq_i1 ?_
                  refine gq_isub X dX7_tableOf_102 ?_
                  refine gq_callSr (ws' := gw_M cA a S) X (c_X7_in l D cA x2 0 ((mg_returned S) - 1)) rfl ⟨rfl, rfl⟩ ⟨Nat.le_of_ble_eq_true rfl, Nat.le_of_ble_eq_true rfl⟩ gX7_tableOf_X7_in hd_X7_in [] rfl (by decide) rfl rfl rfl rfl (Nat.le_of_ble_eq_true rfl) ⟨Nat.zero_le _, Nat.zero_le _⟩ dX7_tableOf_103 ?_
                  refine gq_fbif_eq (tgt := 118) X dX7_tableOf_106 (by decide) (fun h106 => ?_) (fun h106 => ?_)
                  · refine gq_aload_n X dX7_tableOf_109 0 rfl ?_
                    refine gq_get (C := RX7) (T := TX7) (N := 34) X iX7_tableOf_X7 0 gl_M_c0 rfl 18 (by decide) fX7_tableOf_X7_18 rfl dX7_tableOf_110 ?_
                    refine gq_iload_n X dX7_tableOf_113 2 rfl ?_
                    refine gq_ald X 14 gl_M_c14 (mv_inL h106 hr (by decide)) dX7_tableOf_114 ?_
                    refine gq_goto (tgt := 119) X dX7_tableOf_115 (by decide) ?_
                    exact gq_iretf X dX7_tableOf_119 rfl rfl
                  · refine gq_iconst (v := (-1)) X dX7_tableOf_118 gq_im1 ?_
                    exact gq_iretf X dX7_tableOf_119 rfl rfl
                · refine gq_tout (tgt := 120) X dX7_tableOf_1 (by have q0 := lv_neT h1_0 (show (0 : Int32).toInt = 0 by decide); have q1 := lv_neT h1_1 (show (1 : Int32).toInt = 1 by decide); have q2 := lv_neT h1_2 (show (2 : Int32).toInt = 2 by decide); have q3 := lv_neT h1_3 (show (3 : Int32).toInt = 3 by decide); have q4 := lv_neT h1_4 (show (4 : Int32).toInt = 4 by decide); have q5 := lv_neT h1_5 (show (5 : Int32).toInt = 5 by decide); have q6 := lv_neT h1_6 (show (6 : Int32).toInt = 6 by decide); have q7 := lv_neT h1_7 (show (7 : Int32).toInt = 7 by decide); omega) (by decide) ?_
                  refine gq_aload_n X dX7_tableOf_120 0 rfl ?_
                  refine gq_get (C := RX7) (T := TX7) (N := 34) X iX7_tableOf_X7 0 gl_M_c0 rfl 19 (by decide) fX7_tableOf_X7_19 rfl dX7_tableOf_121 ?_
                  exact gq_iretf X dX7_tableOf_124 rfl rfl
theorem hv_X7_isPlace : yX7_isPlace.cls = RX7 ∧ yX7_isPlace.cls ≠ "java/lang/invoke/MethodHandle" ∧ yX7_isPlace.cls ≠ "java/lang/invoke/VarHandle" ∧ (parseMethodDescriptor yX7_isPlace.desc).map (fun d => d.parameters.length) = some 2 := by decide +kernel
def k_X7_isPlace (S : gs_M) (x1 : Int32) (x2 : Int32) : Bool :=
  if 3 ≤ x1 then
    if 6 ≤ x1 then
      if x1 = 7 then
        if k_X7_in x2 0 3 = true then
          true
        else
          false
      else
        true
    else
      k_X7_in x2 0 7
  else
    k_X7_in x2 0 15
set_option maxHeartbeats 4000000 in
set_option maxRecDepth 100000 in
theorem c_X7_isPlace (l : Launch) (D : va_G) (cA : ClassId) (a : Nat → Nat) (S : gs_M) (x1 : Int32) (x2 : Int32) : gq_C l yX7_isPlace wsX7_isPlace ({ frames := 1, cells := 0, slots := 0, locals := 22 } : Room) D cA [.ref (a 0), .int x1, .int x2] (gw_M cA a S) (some (.int (gq_b (k_X7_isPlace S x1 x2)))) (gw_M cA a S) := by
  refine gq_openf (own := RX7) (lv := [(0, .ref (a 0)), (1, .int x1), (2, .int x2)]) (fun r : Bool => (some (.int (gq_b r)), gw_M cA a S)) (k_X7_isPlace S x1 x2) (by decide) rfl rfl (Nat.le_of_ble_eq_true rfl) rfl rfl rfl (fun p e s m args below meth c A X => ?_)
  unfold k_X7_isPlace
  refine gq_iload_n X dX7_isPlace_0 1 rfl ?_
  refine gq_iconst (v := 3) X dX7_isPlace_1 gq_i3 ?_
  refine gq_ficmp_ge (tgt := 15) X dX7_isPlace_2 (by decide) (fun h2 => ?_) (fun h2 => ?_)
  · refine gq_iload_n X dX7_isPlace_15 1 rfl ?_
    refine gq_bipush (v := 6) X dX7_isPlace_16 (by decide) ?_
    refine gq_ficmp_ge (tgt := 31) X dX7_isPlace_18 (by decide) (fun h18 => ?_) (fun h18 => ?_)
    · refine gq_iload_n X dX7_isPlace_31 1 rfl ?_
      refine gq_bipush (v := 7) X dX7_isPlace_32 (by decide) ?_
      refine gq_ficmp_ne (tgt := 46) X dX7_isPlace_34 (by decide) (fun h34 => ?_) (fun h34 => ?_)
      · refine gq_iload_n X dX7_isPlace_37 2 rfl ?_
        refine gq_iconst (v := 0) X dX7_isPlace_38 gq_i0 ?_
        refine gq_iconst (v := 3) X dX7_isPlace_39 gq_i3 ?_
        refine gq_callSr (ws' := gw_M cA a S) X (c_X7_in l D cA x2 0 3) rfl ⟨rfl, rfl⟩ ⟨Nat.le_of_ble_eq_true rfl, Nat.le_of_ble_eq_true rfl⟩ gX7_isPlace_X7_in hd_X7_in [] rfl (by decide) rfl rfl rfl rfl (Nat.le_of_ble_eq_true rfl) ⟨Nat.zero_le _, Nat.zero_le _⟩ dX7_isPlace_40 ?_
        refine gq_fbif_eq (tgt := 50) X dX7_isPlace_43 (by decide) (fun h43 => ?_) (fun h43 => ?_)
        · refine gq_iconst (v := 1) X dX7_isPlace_46 gq_i1 ?_
          refine gq_goto (tgt := 51) X dX7_isPlace_47 (by decide) ?_
          exact gq_zretf (b := true) X dX7_isPlace_51 rfl rfl rfl
        · refine gq_iconst (v := 0) X dX7_isPlace_50 gq_i0 ?_
          exact gq_zretf (b := false) X dX7_isPlace_51 rfl rfl rfl
      · refine gq_iconst (v := 1) X dX7_isPlace_46 gq_i1 ?_
        refine gq_goto (tgt := 51) X dX7_isPlace_47 (by decide) ?_
        exact gq_zretf (b := true) X dX7_isPlace_51 rfl rfl rfl
    · refine gq_iload_n X dX7_isPlace_21 2 rfl ?_
      refine gq_iconst (v := 0) X dX7_isPlace_22 gq_i0 ?_
      refine gq_bipush (v := 7) X dX7_isPlace_23 (by decide) ?_
      refine gq_callSr (ws' := gw_M cA a S) X (c_X7_in l D cA x2 0 7) rfl ⟨rfl, rfl⟩ ⟨Nat.le_of_ble_eq_true rfl, Nat.le_of_ble_eq_true rfl⟩ gX7_isPlace_X7_in hd_X7_in [] rfl (by decide) rfl rfl rfl rfl (Nat.le_of_ble_eq_true rfl) ⟨Nat.zero_le _, Nat.zero_le _⟩ dX7_isPlace_25 ?_
      refine gq_goto (tgt := 51) X dX7_isPlace_28 (by decide) ?_
      exact gq_zretf (b := (k_X7_in x2 0 7)) X dX7_isPlace_51 rfl rfl rfl
  · refine gq_iload_n X dX7_isPlace_5 2 rfl ?_
    refine gq_iconst (v := 0) X dX7_isPlace_6 gq_i0 ?_
    refine gq_bipush (v := 15) X dX7_isPlace_7 (by decide) ?_
    refine gq_callSr (ws' := gw_M cA a S) X (c_X7_in l D cA x2 0 15) rfl ⟨rfl, rfl⟩ ⟨Nat.le_of_ble_eq_true rfl, Nat.le_of_ble_eq_true rfl⟩ gX7_isPlace_X7_in hd_X7_in [] rfl (by decide) rfl rfl rfl rfl (Nat.le_of_ble_eq_true rfl) ⟨Nat.zero_le _, Nat.zero_le _⟩ dX7_isPlace_9 ?_
    refine gq_goto (tgt := 51) X dX7_isPlace_12 (by decide) ?_
    exact gq_zretf (b := (k_X7_in x2 0 15)) X dX7_isPlace_51 rfl rfl rfl
theorem mv_place {S : gs_M} {x1 x2 : Int32} (h : k_X7_isPlace S x1 x2 = true) : (x1 = 0 ∨ x1 = 1 ∨ x1 = 2 → vp_in x2 16) ∧ (x1 = 3 ∨ x1 = 4 ∨ x1 = 5 → vp_in x2 8) ∧ (x1 = 7 → vp_in x2 4) := by
  unfold k_X7_isPlace at h
  refine ⟨fun q => ?_, fun q => ?_, fun q => ?_⟩
  · have h1 : ¬ (3 ≤ x1) := by rcases q with rfl | rfl | rfl <;> decide
    rw [if_neg h1] at h
    exact mv_in h rfl (by decide)
  · have h1 : (3 ≤ x1) ∧ ¬ (6 ≤ x1) := by rcases q with rfl | rfl | rfl <;> decide
    rw [if_pos h1.1, if_neg h1.2] at h
    exact mv_in h rfl (by decide)
  · subst q
    rw [if_pos (by decide), if_pos (by decide), if_pos rfl] at h
    by_cases h2 : k_X7_in x2 0 3 = true
    · exact mv_in h2 rfl (by decide)
    · rw [if_neg h2] at h; cases h
theorem mv_is7 {x : Int32} (h : k_X7_in x 0 7 = true) (h0 : ¬ x = 0) (h1 : ¬ x = 1) (h2 : ¬ x = 2) (h3 : ¬ x = 3) (h4 : ¬ x = 4) (h5 : ¬ x = 5) (h6 : ¬ x = 6) : x = 7 := by
  obtain ⟨j, hj, rfl⟩ := vp_in_of (mv_in h rfl (show (7 : Int32).toInt < (8 : Nat) by decide)) (by decide)
  match j, hj with
  | 0, _ => exact absurd rfl h0
  | 1, _ => exact absurd rfl h1
  | 2, _ => exact absurd rfl h2
  | 3, _ => exact absurd rfl h3
  | 4, _ => exact absurd rfl h4
  | 5, _ => exact absurd rfl h5
  | 6, _ => exact absurd rfl h6
  | 7, _ => rfl
theorem iX7_harm_X7 : ∀ w ∈ u_ws RX7 TX7 34, w ∈ wsX7_harm := by decide +kernel
theorem fX7_harm_X7_11 : Cond.fieldLink RX7 35 (TX7 11).1 (TX7 11).2.1 (TX7 11).2.2.1 ∈ wsX7_harm := by decide +kernel
theorem fX7_harm_X7_12 : Cond.fieldLink RX7 38 (TX7 12).1 (TX7 12).2.1 (TX7 12).2.2.1 ∈ wsX7_harm := by decide +kernel
theorem fX7_harm_X7_13 : Cond.fieldLink RX7 41 (TX7 13).1 (TX7 13).2.1 (TX7 13).2.2.1 ∈ wsX7_harm := by decide +kernel
theorem fX7_harm_X7_14 : Cond.fieldLink RX7 89 (TX7 14).1 (TX7 14).2.1 (TX7 14).2.2.1 ∈ wsX7_harm := by decide +kernel
theorem fX7_harm_X7_15 : Cond.fieldLink RX7 44 (TX7 15).1 (TX7 15).2.1 (TX7 15).2.2.1 ∈ wsX7_harm := by decide +kernel
theorem fX7_harm_X7_16 : Cond.fieldLink RX7 47 (TX7 16).1 (TX7 16).2.1 (TX7 16).2.2.1 ∈ wsX7_harm := by decide +kernel
theorem fX7_harm_X7_17 : Cond.fieldLink RX7 50 (TX7 17).1 (TX7 17).2.1 (TX7 17).2.2.1 ∈ wsX7_harm := by decide +kernel
theorem fX7_harm_X7_18 : Cond.fieldLink RX7 53 (TX7 18).1 (TX7 18).2.1 (TX7 18).2.2.1 ∈ wsX7_harm := by decide +kernel
theorem fX7_harm_X7_19 : Cond.fieldLink RX7 120 (TX7 19).1 (TX7 19).2.1 (TX7 19).2.2.1 ∈ wsX7_harm := by decide +kernel
theorem hv_X7_harm : yX7_harm.cls = RX7 ∧ yX7_harm.cls ≠ "java/lang/invoke/MethodHandle" ∧ yX7_harm.cls ≠ "java/lang/invoke/VarHandle" ∧ (parseMethodDescriptor yX7_harm.desc).map (fun d => d.parameters.length) = some 3 := by decide +kernel
def k_X7_harm (S : gs_M) (x1 : Int32) (x2 : Int32) (x3 : Int32) : Int32 × gs_M :=
  if k_X7_in x1 0 7 = true then
    if k_X7_isPlace S x1 x2 = true then
      if x1 = 7 then
        if k_X7_in x2 0 ((mg_returned S) - 1) = true then
          gq_lt (k_X7_in x3 0 200) (fun b1 =>
          if b1 = true then
            gq_lt (k_X7_tableOf S x1 x2) (fun v2 =>
            gq_lt (ms_returns S (upd (mg_returns S) (gq_ix x2) x3)) (fun s3 =>
            (v2, s3)))
          else
            ((-102), S))
        else
          ((-101), S)
      else
        if 3 ≤ x1 then
          if x1 = 3 then
            gq_lt (k_X7_in x3 (-1) 200) (fun b4 =>
            if b4 = true then
              gq_lt (k_X7_tableOf S x1 x2) (fun v5 =>
              gq_lt (ms_targetAt S (upd (mg_targetAt S) (gq_ix x2) x3)) (fun s6 =>
              (v5, s6)))
            else
              ((-102), S))
          else
            if x1 = 4 then
              gq_lt (k_X7_in x3 5 10) (fun b7 =>
              if b7 = true then
                gq_lt (k_X7_tableOf S x1 x2) (fun v8 =>
                gq_lt (ms_targetKind S (upd (mg_targetKind S) (gq_ix x2) x3)) (fun s9 =>
                (v8, s9)))
              else
                ((-102), S))
            else
              if x1 = 6 then
                gq_lt (k_X7_in x3 0 15) (fun b10 =>
                if b10 = true then
                  gq_lt (k_X7_tableOf S x1 x2) (fun v11 =>
                  gq_lt (ms_history S x3) (fun s12 =>
                  (v11, s12)))
                else
                  ((-102), S))
              else
                gq_lt (k_X7_in x3 0 200) (fun b13 =>
                if b13 = true then
                  gq_lt (k_X7_tableOf S x1 x2) (fun v14 =>
                  if x1 = 0 then
                    gq_lt (ms_plain S (upd (mg_plain S) (gq_ix x2) x3)) (fun s15 =>
                    (v14, s15))
                  else
                    if x1 = 1 then
                      gq_lt (ms_mixed S (upd (mg_mixed S) (gq_ix x2) x3)) (fun s16 =>
                      (v14, s16))
                    else
                      if x1 = 2 then
                        gq_lt (ms_choice S (upd (mg_choice S) (gq_ix x2) x3)) (fun s17 =>
                        (v14, s17))
                      else
                        if x1 = 3 then
                          gq_lt (ms_targetAt S (upd (mg_targetAt S) (gq_ix x2) x3)) (fun s18 =>
                          (v14, s18))
                        else
                          if x1 = 4 then
                            gq_lt (ms_targetKind S (upd (mg_targetKind S) (gq_ix x2) x3)) (fun s19 =>
                            (v14, s19))
                          else
                            if x1 = 5 then
                              gq_lt (ms_target S (upd (mg_target S) (gq_ix x2) x3)) (fun s20 =>
                              (v14, s20))
                            else
                              if x1 = 6 then
                                gq_lt (ms_history S x3) (fun s21 =>
                                (v14, s21))
                              else
                                gq_lt (ms_returns S (upd (mg_returns S) (gq_ix x2) x3)) (fun s22 =>
                                (v14, s22)))
                else
                  ((-102), S))
        else
          gq_lt (k_X7_in x3 0 3) (fun b23 =>
          if b23 = true then
            gq_lt (k_X7_tableOf S x1 x2) (fun v24 =>
            if x1 = 0 then
              gq_lt (ms_plain S (upd (mg_plain S) (gq_ix x2) x3)) (fun s25 =>
              (v24, s25))
            else
              if x1 = 1 then
                gq_lt (ms_mixed S (upd (mg_mixed S) (gq_ix x2) x3)) (fun s26 =>
                (v24, s26))
              else
                if x1 = 2 then
                  gq_lt (ms_choice S (upd (mg_choice S) (gq_ix x2) x3)) (fun s27 =>
                  (v24, s27))
                else
                  if x1 = 3 then
                    gq_lt (ms_targetAt S (upd (mg_targetAt S) (gq_ix x2) x3)) (fun s28 =>
                    (v24, s28))
                  else
                    if x1 = 4 then
                      gq_lt (ms_targetKind S (upd (mg_targetKind S) (gq_ix x2) x3)) (fun s29 =>
                      (v24, s29))
                    else
                      if x1 = 5 then
                        gq_lt (ms_target S (upd (mg_target S) (gq_ix x2) x3)) (fun s30 =>
                        (v24, s30))
                      else
                        if x1 = 6 then
                          gq_lt (ms_history S x3) (fun s31 =>
                          (v24, s31))
                        else
                          gq_lt (ms_returns S (upd (mg_returns S) (gq_ix x2) x3)) (fun s32 =>
                          (v24, s32)))
          else
            ((-102), S))
    else
      ((-101), S)
  else
    ((-102), S)
set_option maxHeartbeats 4000000 in
set_option maxRecDepth 100000 in
theorem c_X7_harm (l : Launch) (D : va_G) (cA : ClassId) (a : Nat → Nat) (S : gs_M) (x1 : Int32) (x2 : Int32) (x3 : Int32) (hr : vp_in (mg_returned S) 5) : gq_C l yX7_harm wsX7_harm ({ frames := 2, cells := 0, slots := 0, locals := 44 } : Room) D cA [.ref (a 0), .int x1, .int x2, .int x3] (gw_M cA a S) (some (.int (k_X7_harm S x1 x2 x3).1)) (gw_M cA a ((k_X7_harm S x1 x2 x3).2)) := by
  refine gq_openf (own := RX7) (lv := [(0, .ref (a 0)), (1, .int x1), (2, .int x2), (3, .int x3)]) (fun r : Int32 × gs_M => (some (.int r.1), gw_M cA a r.2)) (k_X7_harm S x1 x2 x3) (by decide) rfl rfl (Nat.le_of_ble_eq_true rfl) rfl rfl rfl (fun p e s m args below meth c A X => ?_)
  unfold k_X7_harm
  refine gq_iload_n X dX7_harm_0 1 rfl ?_
  refine gq_iconst (v := 0) X dX7_harm_1 gq_i0 ?_
  refine gq_bipush (v := 7) X dX7_harm_2 (by decide) ?_
  refine gq_callSr (ws' := gw_M cA a S) X (c_X7_in l D cA x1 0 7) rfl ⟨rfl, rfl⟩ ⟨Nat.le_of_ble_eq_true rfl, Nat.le_of_ble_eq_true rfl⟩ gX7_harm_X7_in hd_X7_in [] rfl (by decide) rfl rfl rfl rfl (Nat.le_of_ble_eq_true rfl) ⟨Nat.zero_le _, Nat.zero_le _⟩ dX7_harm_4 ?_
  refine gq_fbif_ne (tgt := 13) X dX7_harm_7 (by decide) (fun h7 => ?_) (fun h7 => ?_)
  · refine gq_aload_n X dX7_harm_13 0 rfl ?_
    refine gq_iload_n X dX7_harm_14 1 rfl ?_
    refine gq_iload_n X dX7_harm_15 2 rfl ?_
    refine gq_callVr (ws' := gw_M cA a S) X (c_X7_isPlace l D cA a S x1 x2) rfl ⟨rfl, rfl⟩ ⟨Nat.le_of_ble_eq_true rfl, Nat.le_of_ble_eq_true rfl⟩ gX7_harm_X7_isPlace hv_X7_isPlace 0 gl_M_c0 rfl [0, 1, 2, 3, 4, 5, 6, 7, 8, 9, 10, 11, 12, 13, 14, 15, 16, 17, 18, 19, 20, 21, 22, 23] gl_M_self_at gl_M_self_nd gl_M_fst gl_M_self_same rfl rfl (Nat.le_of_ble_eq_true rfl) ⟨Nat.zero_le _, Nat.zero_le _⟩ dX7_harm_16 ?_
    refine gq_fbif_eq (tgt := 42) X dX7_harm_19 (by decide) (fun h19 => ?_) (fun h19 => ?_)
    · refine gq_iload_n X dX7_harm_22 1 rfl ?_
      refine gq_bipush (v := 7) X dX7_harm_23 (by decide) ?_
      refine gq_ficmp_ne (tgt := 45) X dX7_harm_25 (by decide) (fun h25 => ?_) (fun h25 => ?_)
      · refine gq_iload_n X dX7_harm_28 2 rfl ?_
        refine gq_iconst (v := 0) X dX7_harm_29 gq_i0 ?_
        refine gq_aload_n X dX7_harm_30 0 rfl ?_
        refine gq_get (C := RX7) (T := TX7) (N := 34) X iX7_harm_X7 0 gl_M_c0 rfl 19 (by decide) fX7_harm_X7_19 rfl dX7_harm_31 ?_
        refine gq_iconst (v := 1) X dX7_harm_34 gq_i1 ?_
        refine gq_isub X dX7_harm_35 ?_
        refine gq_callSr (ws' := gw_M cA a S) X (c_X7_in l D cA x2 0 ((mg_returned S) - 1)) rfl ⟨rfl, rfl⟩ ⟨Nat.le_of_ble_eq_true rfl, Nat.le_of_ble_eq_true rfl⟩ gX7_harm_X7_in hd_X7_in [] rfl (by decide) rfl rfl rfl rfl (Nat.le_of_ble_eq_true rfl) ⟨Nat.zero_le _, Nat.zero_le _⟩ dX7_harm_36 ?_
        refine gq_fbif_ne (tgt := 45) X dX7_harm_39 (by decide) (fun h39 => ?_) (fun h39 => ?_)
        · refine gq_iload_n X dX7_harm_45 1 rfl ?_
          refine gq_iconst (v := 3) X dX7_harm_46 gq_i3 ?_
          refine gq_icmp_ge (tgt := 59) X dX7_harm_47 (by decide) (fun _ => ?_) (fun h => absurd (by rw [h25]; decide) h)
          refine gq_iload_n X dX7_harm_59 1 rfl ?_
          refine gq_iconst (v := 3) X dX7_harm_60 gq_i3 ?_
          refine gq_icmp_ne (tgt := 75) X dX7_harm_61 (by decide) (fun _ => ?_) (fun h => absurd h (by rw [h25]; decide))
          refine gq_iload_n X dX7_harm_75 1 rfl ?_
          refine gq_iconst (v := 4) X dX7_harm_76 gq_i4 ?_
          refine gq_icmp_ne (tgt := 90) X dX7_harm_77 (by decide) (fun _ => ?_) (fun h => absurd h (by rw [h25]; decide))
          refine gq_iload_n X dX7_harm_90 1 rfl ?_
          refine gq_bipush (v := 6) X dX7_harm_91 (by decide) ?_
          refine gq_icmp_ne (tgt := 106) X dX7_harm_93 (by decide) (fun _ => ?_) (fun h => absurd h (by rw [h25]; decide))
          refine gq_iload_n X dX7_harm_106 3 rfl ?_
          refine gq_iconst (v := 0) X dX7_harm_107 gq_i0 ?_
          refine gq_sipush (v := 200) X dX7_harm_108 (by decide) ?_
          refine gq_callSr (ws' := gw_M cA a S) X (c_X7_in l D cA x3 0 200) rfl ⟨rfl, rfl⟩ ⟨Nat.le_of_ble_eq_true rfl, Nat.le_of_ble_eq_true rfl⟩ gX7_harm_X7_in hd_X7_in [] rfl (by decide) rfl rfl rfl rfl (Nat.le_of_ble_eq_true rfl) ⟨Nat.zero_le _, Nat.zero_le _⟩ dX7_harm_111 ?_
          refine gq_letr (fun b1 eb1 => ?_)
          refine gq_eqst (st' := .int (gq_b b1) :: _) (by rw [eb1]) ?_
          refine gq_istore (lv' := [(4, .int (gq_b b1)), (0, .ref (a 0)), (1, .int x1), (2, .int x2), (3, .int x3)]) X dX7_harm_114 (by decide) rfl ?_
          refine gq_iload X dX7_harm_116 0 rfl ?_
          refine gq_fbif_ne (tgt := 124) X dX7_harm_118 (by decide) (fun h118 => ?_) (fun h118 => ?_)
          · refine gq_aload_n X dX7_harm_124 1 rfl ?_
            refine gq_iload_n X dX7_harm_125 2 rfl ?_
            refine gq_iload_n X dX7_harm_126 3 rfl ?_
            refine gq_callVr (ws' := gw_M cA a S) X (c_X7_tableOf l D cA a S x1 x2 (mv_place h19).1 (mv_place h19).2.1 hr) rfl ⟨rfl, rfl⟩ ⟨Nat.le_of_ble_eq_true rfl, Nat.le_of_ble_eq_true rfl⟩ gX7_harm_X7_tableOf hv_X7_tableOf 0 gl_M_c0 rfl [0, 1, 2, 3, 4, 5, 6, 7, 8, 9, 10, 11, 12, 13, 14, 15, 16, 17, 18, 19, 20, 21, 22, 23] gl_M_self_at gl_M_self_nd gl_M_fst gl_M_self_same rfl rfl (Nat.le_of_ble_eq_true rfl) ⟨Nat.zero_le _, Nat.zero_le _⟩ dX7_harm_127 ?_
            refine gq_letr (fun v2 ev2 => ?_)
            refine gq_eqst (st' := .int v2 :: _) (by rw [ev2]) ?_
            refine gq_istore (lv' := [(5, .int v2), (4, .int (gq_b b1)), (0, .ref (a 0)), (1, .int x1), (2, .int x2), (3, .int x3)]) X dX7_harm_130 (by decide) rfl ?_
            refine gq_iload_n X dX7_harm_132 3 rfl ?_
            refine gq_tout (tgt := 244) X dX7_harm_133 (by rw [show x1 = 7 from h25]; decide) (by decide) ?_
            refine gq_aload_n X dX7_harm_244 2 rfl ?_
            refine gq_get (C := RX7) (T := TX7) (N := 34) X iX7_harm_X7 0 gl_M_c0 rfl 18 (by decide) fX7_harm_X7_18 rfl dX7_harm_245 ?_
            refine gq_iload_n X dX7_harm_248 4 rfl ?_
            refine gq_iload_n X dX7_harm_249 5 rfl ?_
            refine gq_letr (fun s3 es3 => ?_)
            refine gq_ast (ws' := gw_M cA a s3) X 14 gl_M_c14 ((mv_place h19).2.2 (h25)) (by rw [es3]; exact gl_M_a14) dX7_harm_250 ?_
            refine gq_iload X dX7_harm_251 0 rfl ?_
            exact gq_iretf X dX7_harm_253 rfl rfl
          · refine gq_bipush (v := (-102)) X dX7_harm_121 (by decide) ?_
            exact gq_iretf X dX7_harm_123 rfl rfl
        · refine gq_bipush (v := (-101)) X dX7_harm_42 (by decide) ?_
          exact gq_iretf X dX7_harm_44 rfl rfl
      · refine gq_iload_n X dX7_harm_45 1 rfl ?_
        refine gq_iconst (v := 3) X dX7_harm_46 gq_i3 ?_
        refine gq_ficmp_ge (tgt := 59) X dX7_harm_47 (by decide) (fun h47 => ?_) (fun h47 => ?_)
        · refine gq_iload_n X dX7_harm_59 1 rfl ?_
          refine gq_iconst (v := 3) X dX7_harm_60 gq_i3 ?_
          refine gq_ficmp_ne (tgt := 75) X dX7_harm_61 (by decide) (fun h61 => ?_) (fun h61 => ?_)
          · refine gq_iload_n X dX7_harm_64 3 rfl ?_
            refine gq_iconst (v := (-1)) X dX7_harm_65 gq_im1 ?_
            refine gq_sipush (v := 200) X dX7_harm_66 (by decide) ?_
            refine gq_callSr (ws' := gw_M cA a S) X (c_X7_in l D cA x3 (-1) 200) rfl ⟨rfl, rfl⟩ ⟨Nat.le_of_ble_eq_true rfl, Nat.le_of_ble_eq_true rfl⟩ gX7_harm_X7_in hd_X7_in [] rfl (by decide) rfl rfl rfl rfl (Nat.le_of_ble_eq_true rfl) ⟨Nat.zero_le _, Nat.zero_le _⟩ dX7_harm_69 ?_
            refine gq_goto (tgt := 114) X dX7_harm_72 (by decide) ?_
            refine gq_letr (fun b4 eb4 => ?_)
            refine gq_eqst (st' := .int (gq_b b4) :: _) (by rw [eb4]) ?_
            refine gq_istore (lv' := [(4, .int (gq_b b4)), (0, .ref (a 0)), (1, .int x1), (2, .int x2), (3, .int x3)]) X dX7_harm_114 (by decide) rfl ?_
            refine gq_iload X dX7_harm_116 0 rfl ?_
            refine gq_fbif_ne (tgt := 124) X dX7_harm_118 (by decide) (fun h118 => ?_) (fun h118 => ?_)
            · refine gq_aload_n X dX7_harm_124 1 rfl ?_
              refine gq_iload_n X dX7_harm_125 2 rfl ?_
              refine gq_iload_n X dX7_harm_126 3 rfl ?_
              refine gq_callVr (ws' := gw_M cA a S) X (c_X7_tableOf l D cA a S x1 x2 (mv_place h19).1 (mv_place h19).2.1 hr) rfl ⟨rfl, rfl⟩ ⟨Nat.le_of_ble_eq_true rfl, Nat.le_of_ble_eq_true rfl⟩ gX7_harm_X7_tableOf hv_X7_tableOf 0 gl_M_c0 rfl [0, 1, 2, 3, 4, 5, 6, 7, 8, 9, 10, 11, 12, 13, 14, 15, 16, 17, 18, 19, 20, 21, 22, 23] gl_M_self_at gl_M_self_nd gl_M_fst gl_M_self_same rfl rfl (Nat.le_of_ble_eq_true rfl) ⟨Nat.zero_le _, Nat.zero_le _⟩ dX7_harm_127 ?_
              refine gq_letr (fun v5 ev5 => ?_)
              refine gq_eqst (st' := .int v5 :: _) (by rw [ev5]) ?_
              refine gq_istore (lv' := [(5, .int v5), (4, .int (gq_b b4)), (0, .ref (a 0)), (1, .int x1), (2, .int x2), (3, .int x3)]) X dX7_harm_130 (by decide) rfl ?_
              refine gq_iload_n X dX7_harm_132 3 rfl ?_
              refine gq_tin (k := 3) (off := 73) (tgt := 206) X dX7_harm_133 h61 (by decide) (by decide) (by decide) (by decide) ?_
              refine gq_aload_n X dX7_harm_206 2 rfl ?_
              refine gq_get (C := RX7) (T := TX7) (N := 34) X iX7_harm_X7 0 gl_M_c0 rfl 15 (by decide) fX7_harm_X7_15 rfl dX7_harm_207 ?_
              refine gq_iload_n X dX7_harm_210 4 rfl ?_
              refine gq_iload_n X dX7_harm_211 5 rfl ?_
              refine gq_letr (fun s6 es6 => ?_)
              refine gq_ast (ws' := gw_M cA a s6) X 11 gl_M_c11 ((mv_place h19).2.1 (Or.inl h61)) (by rw [es6]; exact gl_M_a11) dX7_harm_212 ?_
              refine gq_goto (tgt := 251) X dX7_harm_213 (by decide) ?_
              refine gq_iload X dX7_harm_251 0 rfl ?_
              exact gq_iretf X dX7_harm_253 rfl rfl
            · refine gq_bipush (v := (-102)) X dX7_harm_121 (by decide) ?_
              exact gq_iretf X dX7_harm_123 rfl rfl
          · refine gq_iload_n X dX7_harm_75 1 rfl ?_
            refine gq_iconst (v := 4) X dX7_harm_76 gq_i4 ?_
            refine gq_ficmp_ne (tgt := 90) X dX7_harm_77 (by decide) (fun h77 => ?_) (fun h77 => ?_)
            · refine gq_iload_n X dX7_harm_80 3 rfl ?_
              refine gq_iconst (v := 5) X dX7_harm_81 gq_i5 ?_
              refine gq_bipush (v := 10) X dX7_harm_82 (by decide) ?_
              refine gq_callSr (ws' := gw_M cA a S) X (c_X7_in l D cA x3 5 10) rfl ⟨rfl, rfl⟩ ⟨Nat.le_of_ble_eq_true rfl, Nat.le_of_ble_eq_true rfl⟩ gX7_harm_X7_in hd_X7_in [] rfl (by decide) rfl rfl rfl rfl (Nat.le_of_ble_eq_true rfl) ⟨Nat.zero_le _, Nat.zero_le _⟩ dX7_harm_84 ?_
              refine gq_goto (tgt := 114) X dX7_harm_87 (by decide) ?_
              refine gq_letr (fun b7 eb7 => ?_)
              refine gq_eqst (st' := .int (gq_b b7) :: _) (by rw [eb7]) ?_
              refine gq_istore (lv' := [(4, .int (gq_b b7)), (0, .ref (a 0)), (1, .int x1), (2, .int x2), (3, .int x3)]) X dX7_harm_114 (by decide) rfl ?_
              refine gq_iload X dX7_harm_116 0 rfl ?_
              refine gq_fbif_ne (tgt := 124) X dX7_harm_118 (by decide) (fun h118 => ?_) (fun h118 => ?_)
              · refine gq_aload_n X dX7_harm_124 1 rfl ?_
                refine gq_iload_n X dX7_harm_125 2 rfl ?_
                refine gq_iload_n X dX7_harm_126 3 rfl ?_
                refine gq_callVr (ws' := gw_M cA a S) X (c_X7_tableOf l D cA a S x1 x2 (mv_place h19).1 (mv_place h19).2.1 hr) rfl ⟨rfl, rfl⟩ ⟨Nat.le_of_ble_eq_true rfl, Nat.le_of_ble_eq_true rfl⟩ gX7_harm_X7_tableOf hv_X7_tableOf 0 gl_M_c0 rfl [0, 1, 2, 3, 4, 5, 6, 7, 8, 9, 10, 11, 12, 13, 14, 15, 16, 17, 18, 19, 20, 21, 22, 23] gl_M_self_at gl_M_self_nd gl_M_fst gl_M_self_same rfl rfl (Nat.le_of_ble_eq_true rfl) ⟨Nat.zero_le _, Nat.zero_le _⟩ dX7_harm_127 ?_
                refine gq_letr (fun v8 ev8 => ?_)
                refine gq_eqst (st' := .int v8 :: _) (by rw [ev8]) ?_
                refine gq_istore (lv' := [(5, .int v8), (4, .int (gq_b b7)), (0, .ref (a 0)), (1, .int x1), (2, .int x2), (3, .int x3)]) X dX7_harm_130 (by decide) rfl ?_
                refine gq_iload_n X dX7_harm_132 3 rfl ?_
                refine gq_tin (k := 4) (off := 83) (tgt := 216) X dX7_harm_133 h77 (by decide) (by decide) (by decide) (by decide) ?_
                refine gq_aload_n X dX7_harm_216 2 rfl ?_
                refine gq_get (C := RX7) (T := TX7) (N := 34) X iX7_harm_X7 0 gl_M_c0 rfl 16 (by decide) fX7_harm_X7_16 rfl dX7_harm_217 ?_
                refine gq_iload_n X dX7_harm_220 4 rfl ?_
                refine gq_iload_n X dX7_harm_221 5 rfl ?_
                refine gq_letr (fun s9 es9 => ?_)
                refine gq_ast (ws' := gw_M cA a s9) X 12 gl_M_c12 ((mv_place h19).2.1 (Or.inr (Or.inl h77))) (by rw [es9]; exact gl_M_a12) dX7_harm_222 ?_
                refine gq_goto (tgt := 251) X dX7_harm_223 (by decide) ?_
                refine gq_iload X dX7_harm_251 0 rfl ?_
                exact gq_iretf X dX7_harm_253 rfl rfl
              · refine gq_bipush (v := (-102)) X dX7_harm_121 (by decide) ?_
                exact gq_iretf X dX7_harm_123 rfl rfl
            · refine gq_iload_n X dX7_harm_90 1 rfl ?_
              refine gq_bipush (v := 6) X dX7_harm_91 (by decide) ?_
              refine gq_ficmp_ne (tgt := 106) X dX7_harm_93 (by decide) (fun h93 => ?_) (fun h93 => ?_)
              · refine gq_iload_n X dX7_harm_96 3 rfl ?_
                refine gq_iconst (v := 0) X dX7_harm_97 gq_i0 ?_
                refine gq_bipush (v := 15) X dX7_harm_98 (by decide) ?_
                refine gq_callSr (ws' := gw_M cA a S) X (c_X7_in l D cA x3 0 15) rfl ⟨rfl, rfl⟩ ⟨Nat.le_of_ble_eq_true rfl, Nat.le_of_ble_eq_true rfl⟩ gX7_harm_X7_in hd_X7_in [] rfl (by decide) rfl rfl rfl rfl (Nat.le_of_ble_eq_true rfl) ⟨Nat.zero_le _, Nat.zero_le _⟩ dX7_harm_100 ?_
                refine gq_goto (tgt := 114) X dX7_harm_103 (by decide) ?_
                refine gq_letr (fun b10 eb10 => ?_)
                refine gq_eqst (st' := .int (gq_b b10) :: _) (by rw [eb10]) ?_
                refine gq_istore (lv' := [(4, .int (gq_b b10)), (0, .ref (a 0)), (1, .int x1), (2, .int x2), (3, .int x3)]) X dX7_harm_114 (by decide) rfl ?_
                refine gq_iload X dX7_harm_116 0 rfl ?_
                refine gq_fbif_ne (tgt := 124) X dX7_harm_118 (by decide) (fun h118 => ?_) (fun h118 => ?_)
                · refine gq_aload_n X dX7_harm_124 1 rfl ?_
                  refine gq_iload_n X dX7_harm_125 2 rfl ?_
                  refine gq_iload_n X dX7_harm_126 3 rfl ?_
                  refine gq_callVr (ws' := gw_M cA a S) X (c_X7_tableOf l D cA a S x1 x2 (mv_place h19).1 (mv_place h19).2.1 hr) rfl ⟨rfl, rfl⟩ ⟨Nat.le_of_ble_eq_true rfl, Nat.le_of_ble_eq_true rfl⟩ gX7_harm_X7_tableOf hv_X7_tableOf 0 gl_M_c0 rfl [0, 1, 2, 3, 4, 5, 6, 7, 8, 9, 10, 11, 12, 13, 14, 15, 16, 17, 18, 19, 20, 21, 22, 23] gl_M_self_at gl_M_self_nd gl_M_fst gl_M_self_same rfl rfl (Nat.le_of_ble_eq_true rfl) ⟨Nat.zero_le _, Nat.zero_le _⟩ dX7_harm_127 ?_
                  refine gq_letr (fun v11 ev11 => ?_)
                  refine gq_eqst (st' := .int v11 :: _) (by rw [ev11]) ?_
                  refine gq_istore (lv' := [(5, .int v11), (4, .int (gq_b b10)), (0, .ref (a 0)), (1, .int x1), (2, .int x2), (3, .int x3)]) X dX7_harm_130 (by decide) rfl ?_
                  refine gq_iload_n X dX7_harm_132 3 rfl ?_
                  refine gq_tin (k := 6) (off := 103) (tgt := 236) X dX7_harm_133 h93 (by decide) (by decide) (by decide) (by decide) ?_
                  refine gq_aload_n X dX7_harm_236 2 rfl ?_
                  refine gq_iload_n X dX7_harm_237 5 rfl ?_
                  refine gq_letr (fun s12 es12 => ?_)
                  refine gq_put (C := RX7) (T := TX7) (N := 34) (ws' := gw_M cA a s12) X iX7_harm_X7 tyX7 tyX7_ok nmX7 0 gl_M_c0 rfl 14 (by decide) fX7_harm_X7_14 rfl rfl rfl (Nat.le_of_ble_eq_true rfl) (by rw [es12]; exact gl_M_f14) dX7_harm_238 ?_
                  refine gq_goto (tgt := 251) X dX7_harm_241 (by decide) ?_
                  refine gq_iload X dX7_harm_251 0 rfl ?_
                  exact gq_iretf X dX7_harm_253 rfl rfl
                · refine gq_bipush (v := (-102)) X dX7_harm_121 (by decide) ?_
                  exact gq_iretf X dX7_harm_123 rfl rfl
              · refine gq_iload_n X dX7_harm_106 3 rfl ?_
                refine gq_iconst (v := 0) X dX7_harm_107 gq_i0 ?_
                refine gq_sipush (v := 200) X dX7_harm_108 (by decide) ?_
                refine gq_callSr (ws' := gw_M cA a S) X (c_X7_in l D cA x3 0 200) rfl ⟨rfl, rfl⟩ ⟨Nat.le_of_ble_eq_true rfl, Nat.le_of_ble_eq_true rfl⟩ gX7_harm_X7_in hd_X7_in [] rfl (by decide) rfl rfl rfl rfl (Nat.le_of_ble_eq_true rfl) ⟨Nat.zero_le _, Nat.zero_le _⟩ dX7_harm_111 ?_
                refine gq_letr (fun b13 eb13 => ?_)
                refine gq_eqst (st' := .int (gq_b b13) :: _) (by rw [eb13]) ?_
                refine gq_istore (lv' := [(4, .int (gq_b b13)), (0, .ref (a 0)), (1, .int x1), (2, .int x2), (3, .int x3)]) X dX7_harm_114 (by decide) rfl ?_
                refine gq_iload X dX7_harm_116 0 rfl ?_
                refine gq_fbif_ne (tgt := 124) X dX7_harm_118 (by decide) (fun h118 => ?_) (fun h118 => ?_)
                · refine gq_aload_n X dX7_harm_124 1 rfl ?_
                  refine gq_iload_n X dX7_harm_125 2 rfl ?_
                  refine gq_iload_n X dX7_harm_126 3 rfl ?_
                  refine gq_callVr (ws' := gw_M cA a S) X (c_X7_tableOf l D cA a S x1 x2 (mv_place h19).1 (mv_place h19).2.1 hr) rfl ⟨rfl, rfl⟩ ⟨Nat.le_of_ble_eq_true rfl, Nat.le_of_ble_eq_true rfl⟩ gX7_harm_X7_tableOf hv_X7_tableOf 0 gl_M_c0 rfl [0, 1, 2, 3, 4, 5, 6, 7, 8, 9, 10, 11, 12, 13, 14, 15, 16, 17, 18, 19, 20, 21, 22, 23] gl_M_self_at gl_M_self_nd gl_M_fst gl_M_self_same rfl rfl (Nat.le_of_ble_eq_true rfl) ⟨Nat.zero_le _, Nat.zero_le _⟩ dX7_harm_127 ?_
                  refine gq_letr (fun v14 ev14 => ?_)
                  refine gq_eqst (st' := .int v14 :: _) (by rw [ev14]) ?_
                  refine gq_istore (lv' := [(5, .int v14), (4, .int (gq_b b13)), (0, .ref (a 0)), (1, .int x1), (2, .int x2), (3, .int x3)]) X dX7_harm_130 (by decide) rfl ?_
                  refine gq_iload_n X dX7_harm_132 3 rfl ?_
                  refine gq_ite (fun h133_0 => ?_) (fun h133_0 => ?_)
                  · refine gq_tin (k := 0) (off := 43) (tgt := 176) X dX7_harm_133 h133_0 (by decide) (by decide) (by decide) (by decide) ?_
                    refine gq_aload_n X dX7_harm_176 2 rfl ?_
                    refine gq_get (C := RX7) (T := TX7) (N := 34) X iX7_harm_X7 0 gl_M_c0 rfl 11 (by decide) fX7_harm_X7_11 rfl dX7_harm_177 ?_
                    refine gq_iload_n X dX7_harm_180 4 rfl ?_
                    refine gq_iload_n X dX7_harm_181 5 rfl ?_
                    refine gq_letr (fun s15 es15 => ?_)
                    refine gq_ast (ws' := gw_M cA a s15) X 8 gl_M_c8 ((mv_place h19).1 (Or.inl h133_0)) (by rw [es15]; exact gl_M_a8) dX7_harm_182 ?_
                    refine gq_goto (tgt := 251) X dX7_harm_183 (by decide) ?_
                    refine gq_iload X dX7_harm_251 0 rfl ?_
                    exact gq_iretf X dX7_harm_253 rfl rfl
                  · refine gq_ite (fun h133_1 => ?_) (fun h133_1 => ?_)
                    · refine gq_tin (k := 1) (off := 53) (tgt := 186) X dX7_harm_133 h133_1 (by decide) (by decide) (by decide) (by decide) ?_
                      refine gq_aload_n X dX7_harm_186 2 rfl ?_
                      refine gq_get (C := RX7) (T := TX7) (N := 34) X iX7_harm_X7 0 gl_M_c0 rfl 12 (by decide) fX7_harm_X7_12 rfl dX7_harm_187 ?_
                      refine gq_iload_n X dX7_harm_190 4 rfl ?_
                      refine gq_iload_n X dX7_harm_191 5 rfl ?_
                      refine gq_letr (fun s16 es16 => ?_)
                      refine gq_ast (ws' := gw_M cA a s16) X 9 gl_M_c9 ((mv_place h19).1 (Or.inr (Or.inl h133_1))) (by rw [es16]; exact gl_M_a9) dX7_harm_192 ?_
                      refine gq_goto (tgt := 251) X dX7_harm_193 (by decide) ?_
                      refine gq_iload X dX7_harm_251 0 rfl ?_
                      exact gq_iretf X dX7_harm_253 rfl rfl
                    · refine gq_ite (fun h133_2 => ?_) (fun h133_2 => ?_)
                      · refine gq_tin (k := 2) (off := 63) (tgt := 196) X dX7_harm_133 h133_2 (by decide) (by decide) (by decide) (by decide) ?_
                        refine gq_aload_n X dX7_harm_196 2 rfl ?_
                        refine gq_get (C := RX7) (T := TX7) (N := 34) X iX7_harm_X7 0 gl_M_c0 rfl 13 (by decide) fX7_harm_X7_13 rfl dX7_harm_197 ?_
                        refine gq_iload_n X dX7_harm_200 4 rfl ?_
                        refine gq_iload_n X dX7_harm_201 5 rfl ?_
                        refine gq_letr (fun s17 es17 => ?_)
                        refine gq_ast (ws' := gw_M cA a s17) X 10 gl_M_c10 ((mv_place h19).1 (Or.inr (Or.inr h133_2))) (by rw [es17]; exact gl_M_a10) dX7_harm_202 ?_
                        refine gq_goto (tgt := 251) X dX7_harm_203 (by decide) ?_
                        refine gq_iload X dX7_harm_251 0 rfl ?_
                        exact gq_iretf X dX7_harm_253 rfl rfl
                      · refine gq_ite (fun h133_3 => ?_) (fun h133_3 => ?_)
                        · refine gq_tin (k := 3) (off := 73) (tgt := 206) X dX7_harm_133 h133_3 (by decide) (by decide) (by decide) (by decide) ?_
                          refine gq_aload_n X dX7_harm_206 2 rfl ?_
                          refine gq_get (C := RX7) (T := TX7) (N := 34) X iX7_harm_X7 0 gl_M_c0 rfl 15 (by decide) fX7_harm_X7_15 rfl dX7_harm_207 ?_
                          refine gq_iload_n X dX7_harm_210 4 rfl ?_
                          refine gq_iload_n X dX7_harm_211 5 rfl ?_
                          refine gq_letr (fun s18 es18 => ?_)
                          refine gq_ast (ws' := gw_M cA a s18) X 11 gl_M_c11 ((mv_place h19).2.1 (Or.inl h133_3)) (by rw [es18]; exact gl_M_a11) dX7_harm_212 ?_
                          refine gq_goto (tgt := 251) X dX7_harm_213 (by decide) ?_
                          refine gq_iload X dX7_harm_251 0 rfl ?_
                          exact gq_iretf X dX7_harm_253 rfl rfl
                        · refine gq_ite (fun h133_4 => ?_) (fun h133_4 => ?_)
                          · refine gq_tin (k := 4) (off := 83) (tgt := 216) X dX7_harm_133 h133_4 (by decide) (by decide) (by decide) (by decide) ?_
                            refine gq_aload_n X dX7_harm_216 2 rfl ?_
                            refine gq_get (C := RX7) (T := TX7) (N := 34) X iX7_harm_X7 0 gl_M_c0 rfl 16 (by decide) fX7_harm_X7_16 rfl dX7_harm_217 ?_
                            refine gq_iload_n X dX7_harm_220 4 rfl ?_
                            refine gq_iload_n X dX7_harm_221 5 rfl ?_
                            refine gq_letr (fun s19 es19 => ?_)
                            refine gq_ast (ws' := gw_M cA a s19) X 12 gl_M_c12 ((mv_place h19).2.1 (Or.inr (Or.inl h133_4))) (by rw [es19]; exact gl_M_a12) dX7_harm_222 ?_
                            refine gq_goto (tgt := 251) X dX7_harm_223 (by decide) ?_
                            refine gq_iload X dX7_harm_251 0 rfl ?_
                            exact gq_iretf X dX7_harm_253 rfl rfl
                          · refine gq_ite (fun h133_5 => ?_) (fun h133_5 => ?_)
                            · refine gq_tin (k := 5) (off := 93) (tgt := 226) X dX7_harm_133 h133_5 (by decide) (by decide) (by decide) (by decide) ?_
                              refine gq_aload_n X dX7_harm_226 2 rfl ?_
                              refine gq_get (C := RX7) (T := TX7) (N := 34) X iX7_harm_X7 0 gl_M_c0 rfl 17 (by decide) fX7_harm_X7_17 rfl dX7_harm_227 ?_
                              refine gq_iload_n X dX7_harm_230 4 rfl ?_
                              refine gq_iload_n X dX7_harm_231 5 rfl ?_
                              refine gq_letr (fun s20 es20 => ?_)
                              refine gq_ast (ws' := gw_M cA a s20) X 13 gl_M_c13 ((mv_place h19).2.1 (Or.inr (Or.inr h133_5))) (by rw [es20]; exact gl_M_a13) dX7_harm_232 ?_
                              refine gq_goto (tgt := 251) X dX7_harm_233 (by decide) ?_
                              refine gq_iload X dX7_harm_251 0 rfl ?_
                              exact gq_iretf X dX7_harm_253 rfl rfl
                            · refine gq_ite (fun h133_6 => ?_) (fun h133_6 => ?_)
                              · refine gq_tin (k := 6) (off := 103) (tgt := 236) X dX7_harm_133 h133_6 (by decide) (by decide) (by decide) (by decide) ?_
                                refine gq_aload_n X dX7_harm_236 2 rfl ?_
                                refine gq_iload_n X dX7_harm_237 5 rfl ?_
                                refine gq_letr (fun s21 es21 => ?_)
                                refine gq_put (C := RX7) (T := TX7) (N := 34) (ws' := gw_M cA a s21) X iX7_harm_X7 tyX7 tyX7_ok nmX7 0 gl_M_c0 rfl 14 (by decide) fX7_harm_X7_14 rfl rfl rfl (Nat.le_of_ble_eq_true rfl) (by rw [es21]; exact gl_M_f14) dX7_harm_238 ?_
                                refine gq_goto (tgt := 251) X dX7_harm_241 (by decide) ?_
                                refine gq_iload X dX7_harm_251 0 rfl ?_
                                exact gq_iretf X dX7_harm_253 rfl rfl
                              · refine gq_tout (tgt := 244) X dX7_harm_133 (by have q0 := lv_neT h133_0 (show (0 : Int32).toInt = 0 by decide); have q1 := lv_neT h133_1 (show (1 : Int32).toInt = 1 by decide); have q2 := lv_neT h133_2 (show (2 : Int32).toInt = 2 by decide); have q3 := lv_neT h133_3 (show (3 : Int32).toInt = 3 by decide); have q4 := lv_neT h133_4 (show (4 : Int32).toInt = 4 by decide); have q5 := lv_neT h133_5 (show (5 : Int32).toInt = 5 by decide); have q6 := lv_neT h133_6 (show (6 : Int32).toInt = 6 by decide); omega) (by decide) ?_
                                refine gq_aload_n X dX7_harm_244 2 rfl ?_
                                refine gq_get (C := RX7) (T := TX7) (N := 34) X iX7_harm_X7 0 gl_M_c0 rfl 18 (by decide) fX7_harm_X7_18 rfl dX7_harm_245 ?_
                                refine gq_iload_n X dX7_harm_248 4 rfl ?_
                                refine gq_iload_n X dX7_harm_249 5 rfl ?_
                                refine gq_letr (fun s22 es22 => ?_)
                                refine gq_ast (ws' := gw_M cA a s22) X 14 gl_M_c14 ((mv_place h19).2.2 (mv_is7 h7 h133_0 h133_1 h133_2 h133_3 h133_4 h133_5 h133_6)) (by rw [es22]; exact gl_M_a14) dX7_harm_250 ?_
                                refine gq_iload X dX7_harm_251 0 rfl ?_
                                exact gq_iretf X dX7_harm_253 rfl rfl
                · refine gq_bipush (v := (-102)) X dX7_harm_121 (by decide) ?_
                  exact gq_iretf X dX7_harm_123 rfl rfl
        · refine gq_iload_n X dX7_harm_50 3 rfl ?_
          refine gq_iconst (v := 0) X dX7_harm_51 gq_i0 ?_
          refine gq_iconst (v := 3) X dX7_harm_52 gq_i3 ?_
          refine gq_callSr (ws' := gw_M cA a S) X (c_X7_in l D cA x3 0 3) rfl ⟨rfl, rfl⟩ ⟨Nat.le_of_ble_eq_true rfl, Nat.le_of_ble_eq_true rfl⟩ gX7_harm_X7_in hd_X7_in [] rfl (by decide) rfl rfl rfl rfl (Nat.le_of_ble_eq_true rfl) ⟨Nat.zero_le _, Nat.zero_le _⟩ dX7_harm_53 ?_
          refine gq_goto (tgt := 114) X dX7_harm_56 (by decide) ?_
          refine gq_letr (fun b23 eb23 => ?_)
          refine gq_eqst (st' := .int (gq_b b23) :: _) (by rw [eb23]) ?_
          refine gq_istore (lv' := [(4, .int (gq_b b23)), (0, .ref (a 0)), (1, .int x1), (2, .int x2), (3, .int x3)]) X dX7_harm_114 (by decide) rfl ?_
          refine gq_iload X dX7_harm_116 0 rfl ?_
          refine gq_fbif_ne (tgt := 124) X dX7_harm_118 (by decide) (fun h118 => ?_) (fun h118 => ?_)
          · refine gq_aload_n X dX7_harm_124 1 rfl ?_
            refine gq_iload_n X dX7_harm_125 2 rfl ?_
            refine gq_iload_n X dX7_harm_126 3 rfl ?_
            refine gq_callVr (ws' := gw_M cA a S) X (c_X7_tableOf l D cA a S x1 x2 (mv_place h19).1 (mv_place h19).2.1 hr) rfl ⟨rfl, rfl⟩ ⟨Nat.le_of_ble_eq_true rfl, Nat.le_of_ble_eq_true rfl⟩ gX7_harm_X7_tableOf hv_X7_tableOf 0 gl_M_c0 rfl [0, 1, 2, 3, 4, 5, 6, 7, 8, 9, 10, 11, 12, 13, 14, 15, 16, 17, 18, 19, 20, 21, 22, 23] gl_M_self_at gl_M_self_nd gl_M_fst gl_M_self_same rfl rfl (Nat.le_of_ble_eq_true rfl) ⟨Nat.zero_le _, Nat.zero_le _⟩ dX7_harm_127 ?_
            refine gq_letr (fun v24 ev24 => ?_)
            refine gq_eqst (st' := .int v24 :: _) (by rw [ev24]) ?_
            refine gq_istore (lv' := [(5, .int v24), (4, .int (gq_b b23)), (0, .ref (a 0)), (1, .int x1), (2, .int x2), (3, .int x3)]) X dX7_harm_130 (by decide) rfl ?_
            refine gq_iload_n X dX7_harm_132 3 rfl ?_
            refine gq_ite (fun h133_0 => ?_) (fun h133_0 => ?_)
            · refine gq_tin (k := 0) (off := 43) (tgt := 176) X dX7_harm_133 h133_0 (by decide) (by decide) (by decide) (by decide) ?_
              refine gq_aload_n X dX7_harm_176 2 rfl ?_
              refine gq_get (C := RX7) (T := TX7) (N := 34) X iX7_harm_X7 0 gl_M_c0 rfl 11 (by decide) fX7_harm_X7_11 rfl dX7_harm_177 ?_
              refine gq_iload_n X dX7_harm_180 4 rfl ?_
              refine gq_iload_n X dX7_harm_181 5 rfl ?_
              refine gq_letr (fun s25 es25 => ?_)
              refine gq_ast (ws' := gw_M cA a s25) X 8 gl_M_c8 ((mv_place h19).1 (Or.inl h133_0)) (by rw [es25]; exact gl_M_a8) dX7_harm_182 ?_
              refine gq_goto (tgt := 251) X dX7_harm_183 (by decide) ?_
              refine gq_iload X dX7_harm_251 0 rfl ?_
              exact gq_iretf X dX7_harm_253 rfl rfl
            · refine gq_ite (fun h133_1 => ?_) (fun h133_1 => ?_)
              · refine gq_tin (k := 1) (off := 53) (tgt := 186) X dX7_harm_133 h133_1 (by decide) (by decide) (by decide) (by decide) ?_
                refine gq_aload_n X dX7_harm_186 2 rfl ?_
                refine gq_get (C := RX7) (T := TX7) (N := 34) X iX7_harm_X7 0 gl_M_c0 rfl 12 (by decide) fX7_harm_X7_12 rfl dX7_harm_187 ?_
                refine gq_iload_n X dX7_harm_190 4 rfl ?_
                refine gq_iload_n X dX7_harm_191 5 rfl ?_
                refine gq_letr (fun s26 es26 => ?_)
                refine gq_ast (ws' := gw_M cA a s26) X 9 gl_M_c9 ((mv_place h19).1 (Or.inr (Or.inl h133_1))) (by rw [es26]; exact gl_M_a9) dX7_harm_192 ?_
                refine gq_goto (tgt := 251) X dX7_harm_193 (by decide) ?_
                refine gq_iload X dX7_harm_251 0 rfl ?_
                exact gq_iretf X dX7_harm_253 rfl rfl
              · refine gq_ite (fun h133_2 => ?_) (fun h133_2 => ?_)
                · refine gq_tin (k := 2) (off := 63) (tgt := 196) X dX7_harm_133 h133_2 (by decide) (by decide) (by decide) (by decide) ?_
                  refine gq_aload_n X dX7_harm_196 2 rfl ?_
                  refine gq_get (C := RX7) (T := TX7) (N := 34) X iX7_harm_X7 0 gl_M_c0 rfl 13 (by decide) fX7_harm_X7_13 rfl dX7_harm_197 ?_
                  refine gq_iload_n X dX7_harm_200 4 rfl ?_
                  refine gq_iload_n X dX7_harm_201 5 rfl ?_
                  refine gq_letr (fun s27 es27 => ?_)
                  refine gq_ast (ws' := gw_M cA a s27) X 10 gl_M_c10 ((mv_place h19).1 (Or.inr (Or.inr h133_2))) (by rw [es27]; exact gl_M_a10) dX7_harm_202 ?_
                  refine gq_goto (tgt := 251) X dX7_harm_203 (by decide) ?_
                  refine gq_iload X dX7_harm_251 0 rfl ?_
                  exact gq_iretf X dX7_harm_253 rfl rfl
                · refine gq_ite (fun h133_3 => ?_) (fun h133_3 => ?_)
                  · refine gq_tin (k := 3) (off := 73) (tgt := 206) X dX7_harm_133 h133_3 (by decide) (by decide) (by decide) (by decide) ?_
                    refine gq_aload_n X dX7_harm_206 2 rfl ?_
                    refine gq_get (C := RX7) (T := TX7) (N := 34) X iX7_harm_X7 0 gl_M_c0 rfl 15 (by decide) fX7_harm_X7_15 rfl dX7_harm_207 ?_
                    refine gq_iload_n X dX7_harm_210 4 rfl ?_
                    refine gq_iload_n X dX7_harm_211 5 rfl ?_
                    refine gq_letr (fun s28 es28 => ?_)
                    refine gq_ast (ws' := gw_M cA a s28) X 11 gl_M_c11 ((mv_place h19).2.1 (Or.inl h133_3)) (by rw [es28]; exact gl_M_a11) dX7_harm_212 ?_
                    refine gq_goto (tgt := 251) X dX7_harm_213 (by decide) ?_
                    refine gq_iload X dX7_harm_251 0 rfl ?_
                    exact gq_iretf X dX7_harm_253 rfl rfl
                  · refine gq_ite (fun h133_4 => ?_) (fun h133_4 => ?_)
                    · refine gq_tin (k := 4) (off := 83) (tgt := 216) X dX7_harm_133 h133_4 (by decide) (by decide) (by decide) (by decide) ?_
                      refine gq_aload_n X dX7_harm_216 2 rfl ?_
                      refine gq_get (C := RX7) (T := TX7) (N := 34) X iX7_harm_X7 0 gl_M_c0 rfl 16 (by decide) fX7_harm_X7_16 rfl dX7_harm_217 ?_
                      refine gq_iload_n X dX7_harm_220 4 rfl ?_
                      refine gq_iload_n X dX7_harm_221 5 rfl ?_
                      refine gq_letr (fun s29 es29 => ?_)
                      refine gq_ast (ws' := gw_M cA a s29) X 12 gl_M_c12 ((mv_place h19).2.1 (Or.inr (Or.inl h133_4))) (by rw [es29]; exact gl_M_a12) dX7_harm_222 ?_
                      refine gq_goto (tgt := 251) X dX7_harm_223 (by decide) ?_
                      refine gq_iload X dX7_harm_251 0 rfl ?_
                      exact gq_iretf X dX7_harm_253 rfl rfl
                    · refine gq_ite (fun h133_5 => ?_) (fun h133_5 => ?_)
                      · refine gq_tin (k := 5) (off := 93) (tgt := 226) X dX7_harm_133 h133_5 (by decide) (by decide) (by decide) (by decide) ?_
                        refine gq_aload_n X dX7_harm_226 2 rfl ?_
                        refine gq_get (C := RX7) (T := TX7) (N := 34) X iX7_harm_X7 0 gl_M_c0 rfl 17 (by decide) fX7_harm_X7_17 rfl dX7_harm_227 ?_
                        refine gq_iload_n X dX7_harm_230 4 rfl ?_
                        refine gq_iload_n X dX7_harm_231 5 rfl ?_
                        refine gq_letr (fun s30 es30 => ?_)
                        refine gq_ast (ws' := gw_M cA a s30) X 13 gl_M_c13 ((mv_place h19).2.1 (Or.inr (Or.inr h133_5))) (by rw [es30]; exact gl_M_a13) dX7_harm_232 ?_
                        refine gq_goto (tgt := 251) X dX7_harm_233 (by decide) ?_
                        refine gq_iload X dX7_harm_251 0 rfl ?_
                        exact gq_iretf X dX7_harm_253 rfl rfl
                      · refine gq_ite (fun h133_6 => ?_) (fun h133_6 => ?_)
                        · refine gq_tin (k := 6) (off := 103) (tgt := 236) X dX7_harm_133 h133_6 (by decide) (by decide) (by decide) (by decide) ?_
                          refine gq_aload_n X dX7_harm_236 2 rfl ?_
                          refine gq_iload_n X dX7_harm_237 5 rfl ?_
                          refine gq_letr (fun s31 es31 => ?_)
                          refine gq_put (C := RX7) (T := TX7) (N := 34) (ws' := gw_M cA a s31) X iX7_harm_X7 tyX7 tyX7_ok nmX7 0 gl_M_c0 rfl 14 (by decide) fX7_harm_X7_14 rfl rfl rfl (Nat.le_of_ble_eq_true rfl) (by rw [es31]; exact gl_M_f14) dX7_harm_238 ?_
                          refine gq_goto (tgt := 251) X dX7_harm_241 (by decide) ?_
                          refine gq_iload X dX7_harm_251 0 rfl ?_
                          exact gq_iretf X dX7_harm_253 rfl rfl
                        · refine gq_tout (tgt := 244) X dX7_harm_133 (by have q0 := lv_neT h133_0 (show (0 : Int32).toInt = 0 by decide); have q1 := lv_neT h133_1 (show (1 : Int32).toInt = 1 by decide); have q2 := lv_neT h133_2 (show (2 : Int32).toInt = 2 by decide); have q3 := lv_neT h133_3 (show (3 : Int32).toInt = 3 by decide); have q4 := lv_neT h133_4 (show (4 : Int32).toInt = 4 by decide); have q5 := lv_neT h133_5 (show (5 : Int32).toInt = 5 by decide); have q6 := lv_neT h133_6 (show (6 : Int32).toInt = 6 by decide); omega) (by decide) ?_
                          refine gq_aload_n X dX7_harm_244 2 rfl ?_
                          refine gq_get (C := RX7) (T := TX7) (N := 34) X iX7_harm_X7 0 gl_M_c0 rfl 18 (by decide) fX7_harm_X7_18 rfl dX7_harm_245 ?_
                          refine gq_iload_n X dX7_harm_248 4 rfl ?_
                          refine gq_iload_n X dX7_harm_249 5 rfl ?_
                          refine gq_letr (fun s32 es32 => ?_)
                          refine gq_ast (ws' := gw_M cA a s32) X 14 gl_M_c14 ((mv_place h19).2.2 (mv_is7 h7 h133_0 h133_1 h133_2 h133_3 h133_4 h133_5 h133_6)) (by rw [es32]; exact gl_M_a14) dX7_harm_250 ?_
                          refine gq_iload X dX7_harm_251 0 rfl ?_
                          exact gq_iretf X dX7_harm_253 rfl rfl
          · refine gq_bipush (v := (-102)) X dX7_harm_121 (by decide) ?_
            exact gq_iretf X dX7_harm_123 rfl rfl
    · refine gq_bipush (v := (-101)) X dX7_harm_42 (by decide) ?_
      exact gq_iretf X dX7_harm_44 rfl rfl
  · refine gq_bipush (v := (-102)) X dX7_harm_10 (by decide) ?_
    exact gq_iretf X dX7_harm_12 rfl rfl
theorem iX7_forget_X7 : ∀ w ∈ u_ws RX7 TX7 34, w ∈ wsX7_forget := by decide +kernel
theorem fX7_forget_X7_27 : Cond.fieldLink RX7 96 (TX7 27).1 (TX7 27).2.1 (TX7 27).2.2.1 ∈ wsX7_forget := by decide +kernel
theorem hv_X7_forget : yX7_forget.cls = RX7 ∧ yX7_forget.cls ≠ "java/lang/invoke/MethodHandle" ∧ yX7_forget.cls ≠ "java/lang/invoke/VarHandle" ∧ (parseMethodDescriptor yX7_forget.desc).map (fun d => d.parameters.length) = some 0 := by decide +kernel
def k_X7_forget (S : gs_M) : Int32 × gs_M :=
  if mg_runs S = true then
    ((-103), S)
  else
    gq_lt (k_X7_first S) (fun s1 =>
    (1, s1))
set_option maxHeartbeats 4000000 in
set_option maxRecDepth 100000 in
theorem c_X7_forget (l : Launch) (D : va_G) (cA : ClassId) (a : Nat → Nat) (S : gs_M)  : gq_C l yX7_forget wsX7_forget ({ frames := 1, cells := 0, slots := 0, locals := 21 } : Room) D cA [.ref (a 0)] (gw_M cA a S) (some (.int (k_X7_forget S).1)) (gw_M cA a ((k_X7_forget S).2)) := by
  refine gq_openf (own := RX7) (lv := [(0, .ref (a 0))]) (fun r : Int32 × gs_M => (some (.int r.1), gw_M cA a r.2)) (k_X7_forget S) (by decide) rfl rfl (Nat.le_of_ble_eq_true rfl) rfl rfl rfl (fun p e s m args below meth c A X => ?_)
  unfold k_X7_forget
  refine gq_aload_n X dX7_forget_0 0 rfl ?_
  refine gq_get (C := RX7) (T := TX7) (N := 34) X iX7_forget_X7 0 gl_M_c0 rfl 27 (by decide) fX7_forget_X7_27 rfl dX7_forget_1 ?_
  refine gq_fbif_eq (tgt := 10) X dX7_forget_4 (by decide) (fun h4 => ?_) (fun h4 => ?_)
  · refine gq_bipush (v := (-103)) X dX7_forget_7 (by decide) ?_
    exact gq_iretf X dX7_forget_9 rfl rfl
  · refine gq_aload_n X dX7_forget_10 0 rfl ?_
    refine gq_letr (fun s1 es1 => ?_)
    refine gq_callVv (ws' := gw_M cA a s1) X (c_X7_first l D cA a S) rfl ⟨rfl, rfl⟩ ⟨Nat.le_of_ble_eq_true rfl, Nat.le_of_ble_eq_true rfl⟩ gX7_forget_X7_first hv_X7_first 0 gl_M_c0 rfl [0, 1, 2, 3, 4, 5, 6, 7, 8, 9, 10, 11, 12, 13, 14, 15, 16, 17, 18, 19, 20, 21, 22, 23] gl_M_self_at gl_M_self_nd gl_M_fst (by rw [es1]; exact gl_M_self_set) rfl rfl (Nat.le_of_ble_eq_true rfl) ⟨Nat.zero_le _, Nat.zero_le _⟩ dX7_forget_11 ?_
    refine gq_iconst (v := 1) X dX7_forget_14 gq_i1 ?_
    exact gq_iretf X dX7_forget_15 rfl rfl
theorem hv_X7_table : yX7_table.cls = RX7 ∧ yX7_table.cls ≠ "java/lang/invoke/MethodHandle" ∧ yX7_table.cls ≠ "java/lang/invoke/VarHandle" ∧ (parseMethodDescriptor yX7_table.desc).map (fun d => d.parameters.length) = some 2 := by decide +kernel
def k_X7_table (S : gs_M) (x1 : Int32) (x2 : Int32) : Int32 :=
  if k_X7_in x1 0 8 = true then
    if k_X7_isPlace S x1 x2 = true then
      k_X7_tableOf S x1 x2
    else
      (-101)
  else
    (-102)
set_option maxHeartbeats 4000000 in
set_option maxRecDepth 100000 in
theorem c_X7_table (l : Launch) (D : va_G) (cA : ClassId) (a : Nat → Nat) (S : gs_M) (x1 : Int32) (x2 : Int32) (hr : vp_in (mg_returned S) 5) : gq_C l yX7_table wsX7_table ({ frames := 2, cells := 0, slots := 0, locals := 44 } : Room) D cA [.ref (a 0), .int x1, .int x2] (gw_M cA a S) (some (.int (k_X7_table S x1 x2))) (gw_M cA a S) := by
  refine gq_openf (own := RX7) (lv := [(0, .ref (a 0)), (1, .int x1), (2, .int x2)]) (fun r : Int32 => (some (.int r), gw_M cA a S)) (k_X7_table S x1 x2) (by decide) rfl rfl (Nat.le_of_ble_eq_true rfl) rfl rfl rfl (fun p e s m args below meth c A X => ?_)
  unfold k_X7_table
  refine gq_iload_n X dX7_table_0 1 rfl ?_
  refine gq_iconst (v := 0) X dX7_table_1 gq_i0 ?_
  refine gq_bipush (v := 8) X dX7_table_2 (by decide) ?_
  refine gq_callSr (ws' := gw_M cA a S) X (c_X7_in l D cA x1 0 8) rfl ⟨rfl, rfl⟩ ⟨Nat.le_of_ble_eq_true rfl, Nat.le_of_ble_eq_true rfl⟩ gX7_table_X7_in hd_X7_in [] rfl (by decide) rfl rfl rfl rfl (Nat.le_of_ble_eq_true rfl) ⟨Nat.zero_le _, Nat.zero_le _⟩ dX7_table_4 ?_
  refine gq_fbif_ne (tgt := 13) X dX7_table_7 (by decide) (fun h7 => ?_) (fun h7 => ?_)
  · refine gq_aload_n X dX7_table_13 0 rfl ?_
    refine gq_iload_n X dX7_table_14 1 rfl ?_
    refine gq_iload_n X dX7_table_15 2 rfl ?_
    refine gq_callVr (ws' := gw_M cA a S) X (c_X7_isPlace l D cA a S x1 x2) rfl ⟨rfl, rfl⟩ ⟨Nat.le_of_ble_eq_true rfl, Nat.le_of_ble_eq_true rfl⟩ gX7_table_X7_isPlace hv_X7_isPlace 0 gl_M_c0 rfl [0, 1, 2, 3, 4, 5, 6, 7, 8, 9, 10, 11, 12, 13, 14, 15, 16, 17, 18, 19, 20, 21, 22, 23] gl_M_self_at gl_M_self_nd gl_M_fst gl_M_self_same rfl rfl (Nat.le_of_ble_eq_true rfl) ⟨Nat.zero_le _, Nat.zero_le _⟩ dX7_table_16 ?_
    refine gq_fbif_eq (tgt := 31) X dX7_table_19 (by decide) (fun h19 => ?_) (fun h19 => ?_)
    · refine gq_aload_n X dX7_table_22 0 rfl ?_
      refine gq_iload_n X dX7_table_23 1 rfl ?_
      refine gq_iload_n X dX7_table_24 2 rfl ?_
      refine gq_callVr (ws' := gw_M cA a S) X (c_X7_tableOf l D cA a S x1 x2 (mv_place h19).1 (mv_place h19).2.1 hr) rfl ⟨rfl, rfl⟩ ⟨Nat.le_of_ble_eq_true rfl, Nat.le_of_ble_eq_true rfl⟩ gX7_table_X7_tableOf hv_X7_tableOf 0 gl_M_c0 rfl [0, 1, 2, 3, 4, 5, 6, 7, 8, 9, 10, 11, 12, 13, 14, 15, 16, 17, 18, 19, 20, 21, 22, 23] gl_M_self_at gl_M_self_nd gl_M_fst gl_M_self_same rfl rfl (Nat.le_of_ble_eq_true rfl) ⟨Nat.zero_le _, Nat.zero_le _⟩ dX7_table_25 ?_
      refine gq_goto (tgt := 33) X dX7_table_28 (by decide) ?_
      exact gq_iretf X dX7_table_33 rfl rfl
    · refine gq_bipush (v := (-101)) X dX7_table_31 (by decide) ?_
      exact gq_iretf X dX7_table_33 rfl rfl
  · refine gq_bipush (v := (-102)) X dX7_table_10 (by decide) ?_
    exact gq_iretf X dX7_table_12 rfl rfl
theorem kX7_value_103 : Cond.constantLong RX7 103 (-101) ∈ wsX7_value := by decide +kernel
theorem hv_X7_value : yX7_value.cls = RX7 ∧ yX7_value.cls ≠ "java/lang/invoke/MethodHandle" ∧ yX7_value.cls ≠ "java/lang/invoke/VarHandle" ∧ (parseMethodDescriptor yX7_value.desc).map (fun d => d.parameters.length) = some 1 := by decide +kernel
def k_X7_value (S : gs_M) (x1 : Int32) : Int64 :=
  if k_X7_in x1 0 23 = true then
    k_X7_valueOf S x1
  else
    (-101)
set_option maxHeartbeats 4000000 in
set_option maxRecDepth 100000 in
theorem c_X7_value (l : Launch) (D : va_G) (cA : ClassId) (a : Nat → Nat) (S : gs_M) (x1 : Int32) : gq_C l yX7_value wsX7_value ({ frames := 1, cells := 0, slots := 0, locals := 22 } : Room) D cA [.ref (a 0), .int x1] (gw_M cA a S) (some (.long (k_X7_value S x1))) (gw_M cA a S) := by
  refine gq_openf (own := RX7) (lv := [(0, .ref (a 0)), (1, .int x1)]) (fun r : Int64 => (some (.long r), gw_M cA a S)) (k_X7_value S x1) (by decide) rfl rfl (Nat.le_of_ble_eq_true rfl) rfl rfl rfl (fun p e s m args below meth c A X => ?_)
  unfold k_X7_value
  refine gq_iload_n X dX7_value_0 1 rfl ?_
  refine gq_iconst (v := 0) X dX7_value_1 gq_i0 ?_
  refine gq_bipush (v := 23) X dX7_value_2 (by decide) ?_
  refine gq_callSr (ws' := gw_M cA a S) X (c_X7_in l D cA x1 0 23) rfl ⟨rfl, rfl⟩ ⟨Nat.le_of_ble_eq_true rfl, Nat.le_of_ble_eq_true rfl⟩ gX7_value_X7_in hd_X7_in [] rfl (by decide) rfl rfl rfl rfl (Nat.le_of_ble_eq_true rfl) ⟨Nat.zero_le _, Nat.zero_le _⟩ dX7_value_4 ?_
  refine gq_fbif_eq (tgt := 18) X dX7_value_7 (by decide) (fun h7 => ?_) (fun h7 => ?_)
  · refine gq_aload_n X dX7_value_10 0 rfl ?_
    refine gq_iload_n X dX7_value_11 1 rfl ?_
    refine gq_callVr (ws' := gw_M cA a S) X (c_X7_valueOf l D cA a S x1 (mv_in h7 rfl (by decide))) rfl ⟨rfl, rfl⟩ ⟨Nat.le_of_ble_eq_true rfl, Nat.le_of_ble_eq_true rfl⟩ gX7_value_X7_valueOf hv_X7_valueOf 0 gl_M_c0 rfl [0, 1, 2, 3, 4, 5, 6, 7, 8, 9, 10, 11, 12, 13, 14, 15, 16, 17, 18, 19, 20, 21, 22, 23] gl_M_self_at gl_M_self_nd gl_M_fst gl_M_self_same rfl rfl (Nat.le_of_ble_eq_true rfl) ⟨Nat.zero_le _, Nat.zero_le _⟩ dX7_value_12 ?_
    refine gq_goto (tgt := 21) X dX7_value_15 (by decide) ?_
    exact gq_lretf X dX7_value_21 rfl rfl
  · refine gq_ldc2 (v := (-101)) X kX7_value_103 dX7_value_18 ?_
    exact gq_lretf X dX7_value_21 rfl rfl
theorem iX7_stack_X7 : ∀ w ∈ u_ws RX7 TX7 34, w ∈ wsX7_stack := by decide +kernel
theorem fX7_stack_X7_7 : Cond.fieldLink RX7 28 (TX7 7).1 (TX7 7).2.1 (TX7 7).2.2.1 ∈ wsX7_stack := by decide +kernel
theorem fX7_stack_X7_8 : Cond.fieldLink RX7 114 (TX7 8).1 (TX7 8).2.1 (TX7 8).2.2.1 ∈ wsX7_stack := by decide +kernel
theorem hv_X7_stack : yX7_stack.cls = RX7 ∧ yX7_stack.cls ≠ "java/lang/invoke/MethodHandle" ∧ yX7_stack.cls ≠ "java/lang/invoke/VarHandle" ∧ (parseMethodDescriptor yX7_stack.desc).map (fun d => d.parameters.length) = some 1 := by decide +kernel
def k_X7_stack (S : gs_M) (x1 : Int32) : Int32 :=
  if k_X7_in x1 0 ((mg_deep S) - 1) = true then
    (mg_stack S) (gq_ix x1)
  else
    (-1)
set_option maxHeartbeats 4000000 in
set_option maxRecDepth 100000 in
theorem c_X7_stack (l : Launch) (D : va_G) (cA : ClassId) (a : Nat → Nat) (S : gs_M) (x1 : Int32) (hd : vp_in (mg_deep S) 17) : gq_C l yX7_stack wsX7_stack ({ frames := 1, cells := 0, slots := 0, locals := 22 } : Room) D cA [.ref (a 0), .int x1] (gw_M cA a S) (some (.int (k_X7_stack S x1))) (gw_M cA a S) := by
  refine gq_openf (own := RX7) (lv := [(0, .ref (a 0)), (1, .int x1)]) (fun r : Int32 => (some (.int r), gw_M cA a S)) (k_X7_stack S x1) (by decide) rfl rfl (Nat.le_of_ble_eq_true rfl) rfl rfl rfl (fun p e s m args below meth c A X => ?_)
  unfold k_X7_stack
  refine gq_iload_n X dX7_stack_0 1 rfl ?_
  refine gq_iconst (v := 0) X dX7_stack_1 gq_i0 ?_
  refine gq_aload_n X dX7_stack_2 0 rfl ?_
  refine gq_get (C := RX7) (T := TX7) (N := 34) X iX7_stack_X7 0 gl_M_c0 rfl 8 (by decide) fX7_stack_X7_8 rfl dX7_stack_3 ?_
  refine gq_iconst (v := 1) X dX7_stack_6 gq_i1 ?_
  refine gq_isub X dX7_stack_7 ?_
  refine gq_callSr (ws' := gw_M cA a S) X (c_X7_in l D cA x1 0 ((mg_deep S) - 1)) rfl ⟨rfl, rfl⟩ ⟨Nat.le_of_ble_eq_true rfl, Nat.le_of_ble_eq_true rfl⟩ gX7_stack_X7_in hd_X7_in [] rfl (by decide) rfl rfl rfl rfl (Nat.le_of_ble_eq_true rfl) ⟨Nat.zero_le _, Nat.zero_le _⟩ dX7_stack_8 ?_
  refine gq_fbif_eq (tgt := 23) X dX7_stack_11 (by decide) (fun h11 => ?_) (fun h11 => ?_)
  · refine gq_aload_n X dX7_stack_14 0 rfl ?_
    refine gq_get (C := RX7) (T := TX7) (N := 34) X iX7_stack_X7 0 gl_M_c0 rfl 7 (by decide) fX7_stack_X7_7 rfl dX7_stack_15 ?_
    refine gq_iload_n X dX7_stack_18 1 rfl ?_
    refine gq_ald X 7 gl_M_c7 (mv_inL h11 hd (by decide)) dX7_stack_19 ?_
    refine gq_goto (tgt := 24) X dX7_stack_20 (by decide) ?_
    exact gq_iretf X dX7_stack_24 rfl rfl
  · refine gq_iconst (v := (-1)) X dX7_stack_23 gq_im1 ?_
    exact gq_iretf X dX7_stack_24 rfl rfl
theorem mv_done {x c : Int32} (h : k_X7_in x 0 ((if 300 ≤ c then 300 else c) - 1) = true) (hc : ¬ c < 0) : vp_in x 300 := by
  refine mv_inL h ?_ (by decide)
  by_cases h1 : 300 ≤ c
  · rw [if_pos h1]; unfold vp_in; decide
  · rw [if_neg h1]; exact mv_le (mv_lt (k := 300) (n := 300) (by decide) hc h1 (by decide)) (by decide)
theorem mv_done2 {x c v : Int32} (h : k_X7_in x 0 (v - 1) = true) (hv : v = 300 ∨ (v = c ∧ ¬ 300 ≤ c)) (hc : ¬ c < 0) : vp_in x 300 := by
  rcases hv with rfl | ⟨rfl, h1⟩
  · exact mv_inL h (by unfold vp_in; decide) (by decide)
  · exact mv_inL h (mv_le (mv_lt (k := 300) (n := 300) (by decide) hc h1 (by decide)) (by decide)) (by decide)
theorem iX7_done_X7 : ∀ w ∈ u_ws RX7 TX7 34, w ∈ wsX7_done := by decide +kernel
theorem fX7_done_X7_30 : Cond.fieldLink RX7 77 (TX7 30).1 (TX7 30).2.1 (TX7 30).2.2.1 ∈ wsX7_done := by decide +kernel
theorem fX7_done_X7_31 : Cond.fieldLink RX7 80 (TX7 31).1 (TX7 31).2.1 (TX7 31).2.2.1 ∈ wsX7_done := by decide +kernel
theorem hv_X7_done : yX7_done.cls = RX7 ∧ yX7_done.cls ≠ "java/lang/invoke/MethodHandle" ∧ yX7_done.cls ≠ "java/lang/invoke/VarHandle" ∧ (parseMethodDescriptor yX7_done.desc).map (fun d => d.parameters.length) = some 1 := by decide +kernel
def k_X7_done (S : gs_M) (x1 : Int32) : Int32 :=
  if 300 ≤ (mg_counts S) (gq_ix 1) then
    if k_X7_in x1 0 (300 - 1) = true then
      (mg_doneAt S) (gq_ix x1)
    else
      (-1)
  else
    gq_lt ((mg_counts S) (gq_ix 1)) (fun v1 =>
    if k_X7_in x1 0 (v1 - 1) = true then
      (mg_doneAt S) (gq_ix x1)
    else
      (-1))
set_option maxHeartbeats 4000000 in
set_option maxRecDepth 100000 in
theorem c_X7_done (l : Launch) (D : va_G) (cA : ClassId) (a : Nat → Nat) (S : gs_M) (x1 : Int32) (hc : ¬ mg_counts S (gq_ix 1) < 0) : gq_C l yX7_done wsX7_done ({ frames := 1, cells := 0, slots := 0, locals := 22 } : Room) D cA [.ref (a 0), .int x1] (gw_M cA a S) (some (.int (k_X7_done S x1))) (gw_M cA a S) := by
  refine gq_openf (own := RX7) (lv := [(0, .ref (a 0)), (1, .int x1)]) (fun r : Int32 => (some (.int r), gw_M cA a S)) (k_X7_done S x1) (by decide) rfl rfl (Nat.le_of_ble_eq_true rfl) rfl rfl rfl (fun p e s m args below meth c A X => ?_)
  unfold k_X7_done
  refine gq_aload_n X dX7_done_0 0 rfl ?_
  refine gq_get (C := RX7) (T := TX7) (N := 34) X iX7_done_X7 0 gl_M_c0 rfl 30 (by decide) fX7_done_X7_30 rfl dX7_done_1 ?_
  refine gq_iconst (v := 1) X dX7_done_4 gq_i1 ?_
  refine gq_ald X 21 gl_M_c21 (by unfold vp_in; decide) dX7_done_5 ?_
  refine gq_sipush (v := 300) X dX7_done_6 (by decide) ?_
  refine gq_ficmp_ge (tgt := 21) X dX7_done_9 (by decide) (fun h9 => ?_) (fun h9 => ?_)
  · refine gq_sipush (v := 300) X dX7_done_21 (by decide) ?_
    refine gq_istore_n (lv' := [(2, .int 300), (0, .ref (a 0)), (1, .int x1)]) X dX7_done_24 (by decide) rfl ?_
    refine gq_iload_n X dX7_done_25 2 rfl ?_
    refine gq_iconst (v := 0) X dX7_done_26 gq_i0 ?_
    refine gq_iload_n X dX7_done_27 0 rfl ?_
    refine gq_iconst (v := 1) X dX7_done_28 gq_i1 ?_
    refine gq_isub X dX7_done_29 ?_
    refine gq_callSr (ws' := gw_M cA a S) X (c_X7_in l D cA x1 0 (300 - 1)) rfl ⟨rfl, rfl⟩ ⟨Nat.le_of_ble_eq_true rfl, Nat.le_of_ble_eq_true rfl⟩ gX7_done_X7_in hd_X7_in [] rfl (by decide) rfl rfl rfl rfl (Nat.le_of_ble_eq_true rfl) ⟨Nat.zero_le _, Nat.zero_le _⟩ dX7_done_30 ?_
    refine gq_fbif_eq (tgt := 45) X dX7_done_33 (by decide) (fun h33 => ?_) (fun h33 => ?_)
    · refine gq_aload_n X dX7_done_36 1 rfl ?_
      refine gq_get (C := RX7) (T := TX7) (N := 34) X iX7_done_X7 0 gl_M_c0 rfl 31 (by decide) fX7_done_X7_31 rfl dX7_done_37 ?_
      refine gq_iload_n X dX7_done_40 2 rfl ?_
      refine gq_ald X 22 gl_M_c22 (mv_inL h33 (show vp_in (300 : Int32) 301 by unfold vp_in; decide) (by decide)) dX7_done_41 ?_
      refine gq_goto (tgt := 46) X dX7_done_42 (by decide) ?_
      exact gq_iretf X dX7_done_46 rfl rfl
    · refine gq_iconst (v := (-1)) X dX7_done_45 gq_im1 ?_
      exact gq_iretf X dX7_done_46 rfl rfl
  · refine gq_aload_n X dX7_done_12 0 rfl ?_
    refine gq_get (C := RX7) (T := TX7) (N := 34) X iX7_done_X7 0 gl_M_c0 rfl 30 (by decide) fX7_done_X7_30 rfl dX7_done_13 ?_
    refine gq_iconst (v := 1) X dX7_done_16 gq_i1 ?_
    refine gq_ald X 21 gl_M_c21 (by unfold vp_in; decide) dX7_done_17 ?_
    refine gq_goto (tgt := 24) X dX7_done_18 (by decide) ?_
    refine gq_letr (fun v1 ev1 => ?_)
    refine gq_eqst (st' := .int v1 :: _) (by rw [ev1]) ?_
    refine gq_istore_n (lv' := [(2, .int v1), (0, .ref (a 0)), (1, .int x1)]) X dX7_done_24 (by decide) rfl ?_
    refine gq_iload_n X dX7_done_25 2 rfl ?_
    refine gq_iconst (v := 0) X dX7_done_26 gq_i0 ?_
    refine gq_iload_n X dX7_done_27 0 rfl ?_
    refine gq_iconst (v := 1) X dX7_done_28 gq_i1 ?_
    refine gq_isub X dX7_done_29 ?_
    refine gq_callSr (ws' := gw_M cA a S) X (c_X7_in l D cA x1 0 (v1 - 1)) rfl ⟨rfl, rfl⟩ ⟨Nat.le_of_ble_eq_true rfl, Nat.le_of_ble_eq_true rfl⟩ gX7_done_X7_in hd_X7_in [] rfl (by decide) rfl rfl rfl rfl (Nat.le_of_ble_eq_true rfl) ⟨Nat.zero_le _, Nat.zero_le _⟩ dX7_done_30 ?_
    refine gq_fbif_eq (tgt := 45) X dX7_done_33 (by decide) (fun h33 => ?_) (fun h33 => ?_)
    · refine gq_aload_n X dX7_done_36 1 rfl ?_
      refine gq_get (C := RX7) (T := TX7) (N := 34) X iX7_done_X7 0 gl_M_c0 rfl 31 (by decide) fX7_done_X7_31 rfl dX7_done_37 ?_
      refine gq_iload_n X dX7_done_40 2 rfl ?_
      refine gq_ald X 22 gl_M_c22 (mv_done2 h33 (Or.inr ⟨ev1, h9⟩) hc) dX7_done_41 ?_
      refine gq_goto (tgt := 46) X dX7_done_42 (by decide) ?_
      exact gq_iretf X dX7_done_46 rfl rfl
    · refine gq_iconst (v := (-1)) X dX7_done_45 gq_im1 ?_
      exact gq_iretf X dX7_done_46 rfl rfl
theorem iX7_fetched_X7 : ∀ w ∈ u_ws RX7 TX7 34, w ∈ wsX7_fetched := by decide +kernel
theorem fX7_fetched_X7_20 : Cond.fieldLink RX7 117 (TX7 20).1 (TX7 20).2.1 (TX7 20).2.2.1 ∈ wsX7_fetched := by decide +kernel
theorem fX7_fetched_X7_21 : Cond.fieldLink RX7 56 (TX7 21).1 (TX7 21).2.1 (TX7 21).2.2.1 ∈ wsX7_fetched := by decide +kernel
theorem hv_X7_fetched : yX7_fetched.cls = RX7 ∧ yX7_fetched.cls ≠ "java/lang/invoke/MethodHandle" ∧ yX7_fetched.cls ≠ "java/lang/invoke/VarHandle" ∧ (parseMethodDescriptor yX7_fetched.desc).map (fun d => d.parameters.length) = some 1 := by decide +kernel
def k_X7_fetched (S : gs_M) (x1 : Int32) : Int32 :=
  if k_X7_in x1 0 ((mg_fetched S) - 1) = true then
    (mg_fetchAt S) (gq_ix x1)
  else
    (-1)
set_option maxHeartbeats 4000000 in
set_option maxRecDepth 100000 in
theorem c_X7_fetched (l : Launch) (D : va_G) (cA : ClassId) (a : Nat → Nat) (S : gs_M) (x1 : Int32) (hf : vp_in (mg_fetched S) 9) : gq_C l yX7_fetched wsX7_fetched ({ frames := 1, cells := 0, slots := 0, locals := 22 } : Room) D cA [.ref (a 0), .int x1] (gw_M cA a S) (some (.int (k_X7_fetched S x1))) (gw_M cA a S) := by
  refine gq_openf (own := RX7) (lv := [(0, .ref (a 0)), (1, .int x1)]) (fun r : Int32 => (some (.int r), gw_M cA a S)) (k_X7_fetched S x1) (by decide) rfl rfl (Nat.le_of_ble_eq_true rfl) rfl rfl rfl (fun p e s m args below meth c A X => ?_)
  unfold k_X7_fetched
  refine gq_iload_n X dX7_fetched_0 1 rfl ?_
  refine gq_iconst (v := 0) X dX7_fetched_1 gq_i0 ?_
  refine gq_aload_n X dX7_fetched_2 0 rfl ?_
  refine gq_get (C := RX7) (T := TX7) (N := 34) X iX7_fetched_X7 0 gl_M_c0 rfl 20 (by decide) fX7_fetched_X7_20 rfl dX7_fetched_3 ?_
  refine gq_iconst (v := 1) X dX7_fetched_6 gq_i1 ?_
  refine gq_isub X dX7_fetched_7 ?_
  refine gq_callSr (ws' := gw_M cA a S) X (c_X7_in l D cA x1 0 ((mg_fetched S) - 1)) rfl ⟨rfl, rfl⟩ ⟨Nat.le_of_ble_eq_true rfl, Nat.le_of_ble_eq_true rfl⟩ gX7_fetched_X7_in hd_X7_in [] rfl (by decide) rfl rfl rfl rfl (Nat.le_of_ble_eq_true rfl) ⟨Nat.zero_le _, Nat.zero_le _⟩ dX7_fetched_8 ?_
  refine gq_fbif_eq (tgt := 23) X dX7_fetched_11 (by decide) (fun h11 => ?_) (fun h11 => ?_)
  · refine gq_aload_n X dX7_fetched_14 0 rfl ?_
    refine gq_get (C := RX7) (T := TX7) (N := 34) X iX7_fetched_X7 0 gl_M_c0 rfl 21 (by decide) fX7_fetched_X7_21 rfl dX7_fetched_15 ?_
    refine gq_iload_n X dX7_fetched_18 1 rfl ?_
    refine gq_ald X 15 gl_M_c15 (mv_inL h11 hf (by decide)) dX7_fetched_19 ?_
    refine gq_goto (tgt := 24) X dX7_fetched_20 (by decide) ?_
    exact gq_iretf X dX7_fetched_24 rfl rfl
  · refine gq_iconst (v := (-1)) X dX7_fetched_23 gq_im1 ?_
    exact gq_iretf X dX7_fetched_24 rfl rfl
theorem iX7_known_X7 : ∀ w ∈ u_ws RX7 TX7 34, w ∈ wsX7_known := by decide +kernel
theorem fX7_known_X7_20 : Cond.fieldLink RX7 117 (TX7 20).1 (TX7 20).2.1 (TX7 20).2.2.1 ∈ wsX7_known := by decide +kernel
theorem fX7_known_X7_21 : Cond.fieldLink RX7 56 (TX7 21).1 (TX7 21).2.1 (TX7 21).2.2.1 ∈ wsX7_known := by decide +kernel
theorem fX7_known_X7_27 : Cond.fieldLink RX7 96 (TX7 27).1 (TX7 27).2.1 (TX7 27).2.2.1 ∈ wsX7_known := by decide +kernel
theorem fX7_known_X7_29 : Cond.fieldLink RX7 123 (TX7 29).1 (TX7 29).2.1 (TX7 29).2.2.1 ∈ wsX7_known := by decide +kernel
theorem hv_X7_known : yX7_known.cls = RX7 ∧ yX7_known.cls ≠ "java/lang/invoke/MethodHandle" ∧ yX7_known.cls ≠ "java/lang/invoke/VarHandle" ∧ (parseMethodDescriptor yX7_known.desc).map (fun d => d.parameters.length) = some 0 := by decide +kernel
def k_X7_known (S : gs_M) : Int32 :=
  if mg_runs S = true then
    if mg_fetched S ≤ 0 then
      mg_place S
    else
      (mg_fetchAt S) (gq_ix 0)
  else
    (-103)
set_option maxHeartbeats 4000000 in
set_option maxRecDepth 100000 in
theorem c_X7_known (l : Launch) (D : va_G) (cA : ClassId) (a : Nat → Nat) (S : gs_M)  : gq_C l yX7_known wsX7_known ({ frames := 0, cells := 0, slots := 0, locals := 0 } : Room) D cA [.ref (a 0)] (gw_M cA a S) (some (.int (k_X7_known S))) (gw_M cA a S) := by
  refine gq_openf (own := RX7) (lv := [(0, .ref (a 0))]) (fun r : Int32 => (some (.int r), gw_M cA a S)) (k_X7_known S) (by decide) rfl rfl (Nat.le_of_ble_eq_true rfl) rfl rfl rfl (fun p e s m args below meth c A X => ?_)
  unfold k_X7_known
  refine gq_aload_n X dX7_known_0 0 rfl ?_
  refine gq_get (C := RX7) (T := TX7) (N := 34) X iX7_known_X7 0 gl_M_c0 rfl 27 (by decide) fX7_known_X7_27 rfl dX7_known_1 ?_
  refine gq_fbif_ne (tgt := 10) X dX7_known_4 (by decide) (fun h4 => ?_) (fun h4 => ?_)
  · refine gq_aload_n X dX7_known_10 0 rfl ?_
    refine gq_get (C := RX7) (T := TX7) (N := 34) X iX7_known_X7 0 gl_M_c0 rfl 20 (by decide) fX7_known_X7_20 rfl dX7_known_11 ?_
    refine gq_fif_le (tgt := 26) X dX7_known_14 (by decide) (fun h14 => ?_) (fun h14 => ?_)
    · refine gq_aload_n X dX7_known_26 0 rfl ?_
      refine gq_get (C := RX7) (T := TX7) (N := 34) X iX7_known_X7 0 gl_M_c0 rfl 29 (by decide) fX7_known_X7_29 rfl dX7_known_27 ?_
      exact gq_iretf X dX7_known_30 rfl rfl
    · refine gq_aload_n X dX7_known_17 0 rfl ?_
      refine gq_get (C := RX7) (T := TX7) (N := 34) X iX7_known_X7 0 gl_M_c0 rfl 21 (by decide) fX7_known_X7_21 rfl dX7_known_18 ?_
      refine gq_iconst (v := 0) X dX7_known_21 gq_i0 ?_
      refine gq_ald X 15 gl_M_c15 (by unfold vp_in; decide) dX7_known_22 ?_
      refine gq_goto (tgt := 30) X dX7_known_23 (by decide) ?_
      exact gq_iretf X dX7_known_30 rfl rfl
  · refine gq_bipush (v := (-103)) X dX7_known_7 (by decide) ?_
    exact gq_iretf X dX7_known_9 rfl rfl
theorem iX7_told_X7 : ∀ w ∈ u_ws RX7 TX7 34, w ∈ wsX7_told := by decide +kernel
theorem fX7_told_X7_0 : Cond.fieldLink RX7 100 (TX7 0).1 (TX7 0).2.1 (TX7 0).2.2.1 ∈ wsX7_told := by decide +kernel
theorem fX7_told_X7_1 : Cond.fieldLink RX7 7 (TX7 1).1 (TX7 1).2.1 (TX7 1).2.2.1 ∈ wsX7_told := by decide +kernel
theorem fX7_told_X7_2 : Cond.fieldLink RX7 13 (TX7 2).1 (TX7 2).2.1 (TX7 2).2.2.1 ∈ wsX7_told := by decide +kernel
theorem fX7_told_X7_3 : Cond.fieldLink RX7 16 (TX7 3).1 (TX7 3).2.1 (TX7 3).2.2.1 ∈ wsX7_told := by decide +kernel
theorem fX7_told_X7_4 : Cond.fieldLink RX7 19 (TX7 4).1 (TX7 4).2.1 (TX7 4).2.2.1 ∈ wsX7_told := by decide +kernel
theorem hv_X7_told : yX7_told.cls = RX7 ∧ yX7_told.cls ≠ "java/lang/invoke/MethodHandle" ∧ yX7_told.cls ≠ "java/lang/invoke/VarHandle" ∧ (parseMethodDescriptor yX7_told.desc).map (fun d => d.parameters.length) = some 2 := by decide +kernel
def k_X7_told (S : gs_M) (x1 : Int32) (x2 : Int32) : Int32 :=
  if k_X7_in x1 0 ((mg_acts S) - 1) = true then
    if x2 = 0 then
      (mg_kinds S) (gq_ix x1)
    else
      if x2 = 1 then
        (mg_as S) (gq_ix x1)
      else
        if x2 = 2 then
          (mg_bs S) (gq_ix x1)
        else
          if x2 = 3 then
            (mg_cs S) (gq_ix x1)
          else
            (-102)
  else
    (-101)
set_option maxHeartbeats 4000000 in
set_option maxRecDepth 100000 in
theorem c_X7_told (l : Launch) (D : va_G) (cA : ClassId) (a : Nat → Nat) (S : gs_M) (x1 : Int32) (x2 : Int32) (ha : vp_in (mg_acts S) 61) : gq_C l yX7_told wsX7_told ({ frames := 1, cells := 0, slots := 0, locals := 22 } : Room) D cA [.ref (a 0), .int x1, .int x2] (gw_M cA a S) (some (.int (k_X7_told S x1 x2))) (gw_M cA a S) := by
  refine gq_openf (own := RX7) (lv := [(0, .ref (a 0)), (1, .int x1), (2, .int x2)]) (fun r : Int32 => (some (.int r), gw_M cA a S)) (k_X7_told S x1 x2) (by decide) rfl rfl (Nat.le_of_ble_eq_true rfl) rfl rfl rfl (fun p e s m args below meth c A X => ?_)
  unfold k_X7_told
  refine gq_iload_n X dX7_told_0 1 rfl ?_
  refine gq_iconst (v := 0) X dX7_told_1 gq_i0 ?_
  refine gq_aload_n X dX7_told_2 0 rfl ?_
  refine gq_get (C := RX7) (T := TX7) (N := 34) X iX7_told_X7 0 gl_M_c0 rfl 0 (by decide) fX7_told_X7_0 rfl dX7_told_3 ?_
  refine gq_iconst (v := 1) X dX7_told_6 gq_i1 ?_
  refine gq_isub X dX7_told_7 ?_
  refine gq_callSr (ws' := gw_M cA a S) X (c_X7_in l D cA x1 0 ((mg_acts S) - 1)) rfl ⟨rfl, rfl⟩ ⟨Nat.le_of_ble_eq_true rfl, Nat.le_of_ble_eq_true rfl⟩ gX7_told_X7_in hd_X7_in [] rfl (by decide) rfl rfl rfl rfl (Nat.le_of_ble_eq_true rfl) ⟨Nat.zero_le _, Nat.zero_le _⟩ dX7_told_8 ?_
  refine gq_fbif_ne (tgt := 17) X dX7_told_11 (by decide) (fun h11 => ?_) (fun h11 => ?_)
  · refine gq_iload_n X dX7_told_17 2 rfl ?_
    refine gq_fif_ne (tgt := 30) X dX7_told_18 (by decide) (fun h18 => ?_) (fun h18 => ?_)
    · refine gq_aload_n X dX7_told_21 0 rfl ?_
      refine gq_get (C := RX7) (T := TX7) (N := 34) X iX7_told_X7 0 gl_M_c0 rfl 1 (by decide) fX7_told_X7_1 rfl dX7_told_22 ?_
      refine gq_iload_n X dX7_told_25 1 rfl ?_
      refine gq_ald X 1 gl_M_c1 (mv_inL h11 ha (by decide)) dX7_told_26 ?_
      refine gq_goto (tgt := 74) X dX7_told_27 (by decide) ?_
      exact gq_iretf X dX7_told_74 rfl rfl
    · refine gq_iload_n X dX7_told_30 2 rfl ?_
      refine gq_iconst (v := 1) X dX7_told_31 gq_i1 ?_
      refine gq_ficmp_ne (tgt := 44) X dX7_told_32 (by decide) (fun h32 => ?_) (fun h32 => ?_)
      · refine gq_aload_n X dX7_told_35 0 rfl ?_
        refine gq_get (C := RX7) (T := TX7) (N := 34) X iX7_told_X7 0 gl_M_c0 rfl 2 (by decide) fX7_told_X7_2 rfl dX7_told_36 ?_
        refine gq_iload_n X dX7_told_39 1 rfl ?_
        refine gq_ald X 2 gl_M_c2 (mv_inL h11 ha (by decide)) dX7_told_40 ?_
        refine gq_goto (tgt := 74) X dX7_told_41 (by decide) ?_
        exact gq_iretf X dX7_told_74 rfl rfl
      · refine gq_iload_n X dX7_told_44 2 rfl ?_
        refine gq_iconst (v := 2) X dX7_told_45 gq_i2 ?_
        refine gq_ficmp_ne (tgt := 58) X dX7_told_46 (by decide) (fun h46 => ?_) (fun h46 => ?_)
        · refine gq_aload_n X dX7_told_49 0 rfl ?_
          refine gq_get (C := RX7) (T := TX7) (N := 34) X iX7_told_X7 0 gl_M_c0 rfl 3 (by decide) fX7_told_X7_3 rfl dX7_told_50 ?_
          refine gq_iload_n X dX7_told_53 1 rfl ?_
          refine gq_ald X 3 gl_M_c3 (mv_inL h11 ha (by decide)) dX7_told_54 ?_
          refine gq_goto (tgt := 74) X dX7_told_55 (by decide) ?_
          exact gq_iretf X dX7_told_74 rfl rfl
        · refine gq_iload_n X dX7_told_58 2 rfl ?_
          refine gq_iconst (v := 3) X dX7_told_59 gq_i3 ?_
          refine gq_ficmp_ne (tgt := 72) X dX7_told_60 (by decide) (fun h60 => ?_) (fun h60 => ?_)
          · refine gq_aload_n X dX7_told_63 0 rfl ?_
            refine gq_get (C := RX7) (T := TX7) (N := 34) X iX7_told_X7 0 gl_M_c0 rfl 4 (by decide) fX7_told_X7_4 rfl dX7_told_64 ?_
            refine gq_iload_n X dX7_told_67 1 rfl ?_
            refine gq_ald X 4 gl_M_c4 (mv_inL h11 ha (by decide)) dX7_told_68 ?_
            refine gq_goto (tgt := 74) X dX7_told_69 (by decide) ?_
            exact gq_iretf X dX7_told_74 rfl rfl
          · refine gq_bipush (v := (-102)) X dX7_told_72 (by decide) ?_
            exact gq_iretf X dX7_told_74 rfl rfl
  · refine gq_bipush (v := (-101)) X dX7_told_14 (by decide) ?_
    exact gq_iretf X dX7_told_16 rfl rfl
theorem iX7_count_X7 : ∀ w ∈ u_ws RX7 TX7 34, w ∈ wsX7_count := by decide +kernel
theorem fX7_count_X7_0 : Cond.fieldLink RX7 100 (TX7 0).1 (TX7 0).2.1 (TX7 0).2.2.1 ∈ wsX7_count := by decide +kernel
theorem fX7_count_X7_8 : Cond.fieldLink RX7 114 (TX7 8).1 (TX7 8).2.1 (TX7 8).2.2.1 ∈ wsX7_count := by decide +kernel
theorem fX7_count_X7_9 : Cond.fieldLink RX7 111 (TX7 9).1 (TX7 9).2.1 (TX7 9).2.2.1 ∈ wsX7_count := by decide +kernel
theorem fX7_count_X7_10 : Cond.fieldLink RX7 31 (TX7 10).1 (TX7 10).2.1 (TX7 10).2.2.1 ∈ wsX7_count := by decide +kernel
theorem fX7_count_X7_20 : Cond.fieldLink RX7 117 (TX7 20).1 (TX7 20).2.1 (TX7 20).2.2.1 ∈ wsX7_count := by decide +kernel
theorem fX7_count_X7_29 : Cond.fieldLink RX7 123 (TX7 29).1 (TX7 29).2.1 (TX7 29).2.2.1 ∈ wsX7_count := by decide +kernel
theorem fX7_count_X7_30 : Cond.fieldLink RX7 77 (TX7 30).1 (TX7 30).2.1 (TX7 30).2.2.1 ∈ wsX7_count := by decide +kernel
theorem hv_X7_count : yX7_count.cls = RX7 ∧ yX7_count.cls ≠ "java/lang/invoke/MethodHandle" ∧ yX7_count.cls ≠ "java/lang/invoke/VarHandle" ∧ (parseMethodDescriptor yX7_count.desc).map (fun d => d.parameters.length) = some 1 := by decide +kernel
def k_X7_count (S : gs_M) (x1 : Int32) : Int32 :=
  if x1 = 9 then
    mg_deep S
  else
    if x1 = 10 then
      mg_fetched S
    else
      if x1 = 11 then
        mg_place S
      else
        if x1 = 12 then
          if k_X7_in x1 0 14 = true then
            (mg_counts S) (gq_ix x1)
          else
            (-102)
        else
          if x1 = 13 then
            if k_X7_in x1 0 14 = true then
              (mg_counts S) (gq_ix x1)
            else
              (-102)
          else
            if x1 = 14 then
              if k_X7_in x1 0 14 = true then
                (mg_counts S) (gq_ix x1)
              else
                (-102)
            else
              if x1 = 15 then
                mg_acts S
              else
                if x1 = 16 then
                  mg_way S
                else
                  if x1 = 17 then
                    mg_depth S
                  else
                    if k_X7_in x1 0 14 = true then
                      (mg_counts S) (gq_ix x1)
                    else
                      (-102)
set_option maxHeartbeats 4000000 in
set_option maxRecDepth 100000 in
theorem c_X7_count (l : Launch) (D : va_G) (cA : ClassId) (a : Nat → Nat) (S : gs_M) (x1 : Int32) : gq_C l yX7_count wsX7_count ({ frames := 1, cells := 0, slots := 0, locals := 22 } : Room) D cA [.ref (a 0), .int x1] (gw_M cA a S) (some (.int (k_X7_count S x1))) (gw_M cA a S) := by
  refine gq_openf (own := RX7) (lv := [(0, .ref (a 0)), (1, .int x1)]) (fun r : Int32 => (some (.int r), gw_M cA a S)) (k_X7_count S x1) (by decide) rfl rfl (Nat.le_of_ble_eq_true rfl) rfl rfl rfl (fun p e s m args below meth c A X => ?_)
  unfold k_X7_count
  refine gq_iload_n X dX7_count_0 1 rfl ?_
  refine gq_ite (fun h1_0 => ?_) (fun h1_0 => ?_)
  · refine gq_tin (k := 9) (off := 51) (tgt := 52) X dX7_count_1 h1_0 (by decide) (by decide) (by decide) (by decide) ?_
    refine gq_aload_n X dX7_count_52 0 rfl ?_
    refine gq_get (C := RX7) (T := TX7) (N := 34) X iX7_count_X7 0 gl_M_c0 rfl 8 (by decide) fX7_count_X7_8 rfl dX7_count_53 ?_
    exact gq_iretf X dX7_count_56 rfl rfl
  · refine gq_ite (fun h1_1 => ?_) (fun h1_1 => ?_)
    · refine gq_tin (k := 10) (off := 56) (tgt := 57) X dX7_count_1 h1_1 (by decide) (by decide) (by decide) (by decide) ?_
      refine gq_aload_n X dX7_count_57 0 rfl ?_
      refine gq_get (C := RX7) (T := TX7) (N := 34) X iX7_count_X7 0 gl_M_c0 rfl 20 (by decide) fX7_count_X7_20 rfl dX7_count_58 ?_
      exact gq_iretf X dX7_count_61 rfl rfl
    · refine gq_ite (fun h1_2 => ?_) (fun h1_2 => ?_)
      · refine gq_tin (k := 11) (off := 61) (tgt := 62) X dX7_count_1 h1_2 (by decide) (by decide) (by decide) (by decide) ?_
        refine gq_aload_n X dX7_count_62 0 rfl ?_
        refine gq_get (C := RX7) (T := TX7) (N := 34) X iX7_count_X7 0 gl_M_c0 rfl 29 (by decide) fX7_count_X7_29 rfl dX7_count_63 ?_
        exact gq_iretf X dX7_count_66 rfl rfl
      · refine gq_ite (fun h1_3 => ?_) (fun h1_3 => ?_)
        · refine gq_tin (k := 12) (off := 81) (tgt := 82) X dX7_count_1 h1_3 (by decide) (by decide) (by decide) (by decide) ?_
          refine gq_iload_n X dX7_count_82 1 rfl ?_
          refine gq_iconst (v := 0) X dX7_count_83 gq_i0 ?_
          refine gq_bipush (v := 14) X dX7_count_84 (by decide) ?_
          refine gq_callSr (ws' := gw_M cA a S) X (c_X7_in l D cA x1 0 14) rfl ⟨rfl, rfl⟩ ⟨Nat.le_of_ble_eq_true rfl, Nat.le_of_ble_eq_true rfl⟩ gX7_count_X7_in hd_X7_in [] rfl (by decide) rfl rfl rfl rfl (Nat.le_of_ble_eq_true rfl) ⟨Nat.zero_le _, Nat.zero_le _⟩ dX7_count_86 ?_
          refine gq_fbif_eq (tgt := 101) X dX7_count_89 (by decide) (fun h89 => ?_) (fun h89 => ?_)
          · refine gq_aload_n X dX7_count_92 0 rfl ?_
            refine gq_get (C := RX7) (T := TX7) (N := 34) X iX7_count_X7 0 gl_M_c0 rfl 30 (by decide) fX7_count_X7_30 rfl dX7_count_93 ?_
            refine gq_iload_n X dX7_count_96 1 rfl ?_
            refine gq_ald X 21 gl_M_c21 (mv_le (mv_in h89 rfl (show (14 : Int32).toInt < (15 : Nat) by decide)) (by decide)) dX7_count_97 ?_
            refine gq_goto (tgt := 103) X dX7_count_98 (by decide) ?_
            exact gq_iretf X dX7_count_103 rfl rfl
          · refine gq_bipush (v := (-102)) X dX7_count_101 (by decide) ?_
            exact gq_iretf X dX7_count_103 rfl rfl
        · refine gq_ite (fun h1_4 => ?_) (fun h1_4 => ?_)
          · refine gq_tin (k := 13) (off := 81) (tgt := 82) X dX7_count_1 h1_4 (by decide) (by decide) (by decide) (by decide) ?_
            refine gq_iload_n X dX7_count_82 1 rfl ?_
            refine gq_iconst (v := 0) X dX7_count_83 gq_i0 ?_
            refine gq_bipush (v := 14) X dX7_count_84 (by decide) ?_
            refine gq_callSr (ws' := gw_M cA a S) X (c_X7_in l D cA x1 0 14) rfl ⟨rfl, rfl⟩ ⟨Nat.le_of_ble_eq_true rfl, Nat.le_of_ble_eq_true rfl⟩ gX7_count_X7_in hd_X7_in [] rfl (by decide) rfl rfl rfl rfl (Nat.le_of_ble_eq_true rfl) ⟨Nat.zero_le _, Nat.zero_le _⟩ dX7_count_86 ?_
            refine gq_fbif_eq (tgt := 101) X dX7_count_89 (by decide) (fun h89 => ?_) (fun h89 => ?_)
            · refine gq_aload_n X dX7_count_92 0 rfl ?_
              refine gq_get (C := RX7) (T := TX7) (N := 34) X iX7_count_X7 0 gl_M_c0 rfl 30 (by decide) fX7_count_X7_30 rfl dX7_count_93 ?_
              refine gq_iload_n X dX7_count_96 1 rfl ?_
              refine gq_ald X 21 gl_M_c21 (mv_le (mv_in h89 rfl (show (14 : Int32).toInt < (15 : Nat) by decide)) (by decide)) dX7_count_97 ?_
              refine gq_goto (tgt := 103) X dX7_count_98 (by decide) ?_
              exact gq_iretf X dX7_count_103 rfl rfl
            · refine gq_bipush (v := (-102)) X dX7_count_101 (by decide) ?_
              exact gq_iretf X dX7_count_103 rfl rfl
          · refine gq_ite (fun h1_5 => ?_) (fun h1_5 => ?_)
            · refine gq_tin (k := 14) (off := 81) (tgt := 82) X dX7_count_1 h1_5 (by decide) (by decide) (by decide) (by decide) ?_
              refine gq_iload_n X dX7_count_82 1 rfl ?_
              refine gq_iconst (v := 0) X dX7_count_83 gq_i0 ?_
              refine gq_bipush (v := 14) X dX7_count_84 (by decide) ?_
              refine gq_callSr (ws' := gw_M cA a S) X (c_X7_in l D cA x1 0 14) rfl ⟨rfl, rfl⟩ ⟨Nat.le_of_ble_eq_true rfl, Nat.le_of_ble_eq_true rfl⟩ gX7_count_X7_in hd_X7_in [] rfl (by decide) rfl rfl rfl rfl (Nat.le_of_ble_eq_true rfl) ⟨Nat.zero_le _, Nat.zero_le _⟩ dX7_count_86 ?_
              refine gq_fbif_eq (tgt := 101) X dX7_count_89 (by decide) (fun h89 => ?_) (fun h89 => ?_)
              · refine gq_aload_n X dX7_count_92 0 rfl ?_
                refine gq_get (C := RX7) (T := TX7) (N := 34) X iX7_count_X7 0 gl_M_c0 rfl 30 (by decide) fX7_count_X7_30 rfl dX7_count_93 ?_
                refine gq_iload_n X dX7_count_96 1 rfl ?_
                refine gq_ald X 21 gl_M_c21 (mv_le (mv_in h89 rfl (show (14 : Int32).toInt < (15 : Nat) by decide)) (by decide)) dX7_count_97 ?_
                refine gq_goto (tgt := 103) X dX7_count_98 (by decide) ?_
                exact gq_iretf X dX7_count_103 rfl rfl
              · refine gq_bipush (v := (-102)) X dX7_count_101 (by decide) ?_
                exact gq_iretf X dX7_count_103 rfl rfl
            · refine gq_ite (fun h1_6 => ?_) (fun h1_6 => ?_)
              · refine gq_tin (k := 15) (off := 66) (tgt := 67) X dX7_count_1 h1_6 (by decide) (by decide) (by decide) (by decide) ?_
                refine gq_aload_n X dX7_count_67 0 rfl ?_
                refine gq_get (C := RX7) (T := TX7) (N := 34) X iX7_count_X7 0 gl_M_c0 rfl 0 (by decide) fX7_count_X7_0 rfl dX7_count_68 ?_
                exact gq_iretf X dX7_count_71 rfl rfl
              · refine gq_ite (fun h1_7 => ?_) (fun h1_7 => ?_)
                · refine gq_tin (k := 16) (off := 71) (tgt := 72) X dX7_count_1 h1_7 (by decide) (by decide) (by decide) (by decide) ?_
                  refine gq_aload_n X dX7_count_72 0 rfl ?_
                  refine gq_get (C := RX7) (T := TX7) (N := 34) X iX7_count_X7 0 gl_M_c0 rfl 9 (by decide) fX7_count_X7_9 rfl dX7_count_73 ?_
                  exact gq_iretf X dX7_count_76 rfl rfl
                · refine gq_ite (fun h1_8 => ?_) (fun h1_8 => ?_)
                  · refine gq_tin (k := 17) (off := 76) (tgt := 77) X dX7_count_1 h1_8 (by decide) (by decide) (by decide) (by decide) ?_
                    refine gq_aload_n X dX7_count_77 0 rfl ?_
                    refine gq_get (C := RX7) (T := TX7) (N := 34) X iX7_count_X7 0 gl_M_c0 rfl 10 (by decide) fX7_count_X7_10 rfl dX7_count_78 ?_
                    exact gq_iretf X dX7_count_81 rfl rfl
                  · refine gq_tout (tgt := 82) X dX7_count_1 (by have q0 := lv_neT h1_0 (show (9 : Int32).toInt = 9 by decide); have q1 := lv_neT h1_1 (show (10 : Int32).toInt = 10 by decide); have q2 := lv_neT h1_2 (show (11 : Int32).toInt = 11 by decide); have q3 := lv_neT h1_3 (show (12 : Int32).toInt = 12 by decide); have q4 := lv_neT h1_4 (show (13 : Int32).toInt = 13 by decide); have q5 := lv_neT h1_5 (show (14 : Int32).toInt = 14 by decide); have q6 := lv_neT h1_6 (show (15 : Int32).toInt = 15 by decide); have q7 := lv_neT h1_7 (show (16 : Int32).toInt = 16 by decide); have q8 := lv_neT h1_8 (show (17 : Int32).toInt = 17 by decide); omega) (by decide) ?_
                    refine gq_iload_n X dX7_count_82 1 rfl ?_
                    refine gq_iconst (v := 0) X dX7_count_83 gq_i0 ?_
                    refine gq_bipush (v := 14) X dX7_count_84 (by decide) ?_
                    refine gq_callSr (ws' := gw_M cA a S) X (c_X7_in l D cA x1 0 14) rfl ⟨rfl, rfl⟩ ⟨Nat.le_of_ble_eq_true rfl, Nat.le_of_ble_eq_true rfl⟩ gX7_count_X7_in hd_X7_in [] rfl (by decide) rfl rfl rfl rfl (Nat.le_of_ble_eq_true rfl) ⟨Nat.zero_le _, Nat.zero_le _⟩ dX7_count_86 ?_
                    refine gq_fbif_eq (tgt := 101) X dX7_count_89 (by decide) (fun h89 => ?_) (fun h89 => ?_)
                    · refine gq_aload_n X dX7_count_92 0 rfl ?_
                      refine gq_get (C := RX7) (T := TX7) (N := 34) X iX7_count_X7 0 gl_M_c0 rfl 30 (by decide) fX7_count_X7_30 rfl dX7_count_93 ?_
                      refine gq_iload_n X dX7_count_96 1 rfl ?_
                      refine gq_ald X 21 gl_M_c21 (mv_le (mv_in h89 rfl (show (14 : Int32).toInt < (15 : Nat) by decide)) (by decide)) dX7_count_97 ?_
                      refine gq_goto (tgt := 103) X dX7_count_98 (by decide) ?_
                      exact gq_iretf X dX7_count_103 rfl rfl
                    · refine gq_bipush (v := (-102)) X dX7_count_101 (by decide) ?_
                      exact gq_iretf X dX7_count_103 rfl rfl
theorem iX7_mix_X7 : ∀ w ∈ u_ws RX7 TX7 34, w ∈ wsX7_mix := by decide +kernel
theorem fX7_mix_X7_33 : Cond.fieldLink RX7 185 (TX7 33).1 (TX7 33).2.1 (TX7 33).2.2.1 ∈ wsX7_mix := by decide +kernel
theorem kX7_mix_183 : Cond.constantLong RX7 183 31 ∈ wsX7_mix := by decide +kernel
theorem hv_X7_mix : yX7_mix.cls = RX7 ∧ yX7_mix.cls ≠ "java/lang/invoke/MethodHandle" ∧ yX7_mix.cls ≠ "java/lang/invoke/VarHandle" ∧ (parseMethodDescriptor yX7_mix.desc).map (fun d => d.parameters.length) = some 1 := by decide +kernel
def k_X7_mix (S : gs_M) (w1 : Int64) : gs_M :=
  gq_lt (ms_h S ((31 * (mg_h S)) + w1)) (fun s1 =>
  s1)
set_option maxHeartbeats 4000000 in
set_option maxRecDepth 100000 in
theorem c_X7_mix (l : Launch) (D : va_G) (cA : ClassId) (a : Nat → Nat) (S : gs_M) (w1 : Int64) : gq_C l yX7_mix wsX7_mix ({ frames := 0, cells := 0, slots := 0, locals := 0 } : Room) D cA [.ref (a 0), .long w1] (gw_M cA a S) (none) (gw_M cA a (k_X7_mix S w1)) := by
  refine gq_openf (own := RX7) (lv := [(0, .ref (a 0)), (1, .long w1)]) (fun r : gs_M => (none, gw_M cA a r)) (k_X7_mix S w1) (by decide) rfl rfl (Nat.le_of_ble_eq_true rfl) rfl rfl rfl (fun p e s m args below meth c A X => ?_)
  unfold k_X7_mix
  refine gq_aload_n X dX7_mix_0 0 rfl ?_
  refine gq_ldc2 (v := 31) X kX7_mix_183 dX7_mix_1 ?_
  refine gq_aload_n X dX7_mix_4 0 rfl ?_
  refine gq_get (C := RX7) (T := TX7) (N := 34) X iX7_mix_X7 0 gl_M_c0 rfl 33 (by decide) fX7_mix_X7_33 rfl dX7_mix_5 ?_
  refine gq_lmul X dX7_mix_8 ?_
  refine gq_lload_n X dX7_mix_9 1 rfl ?_
  refine gq_ladd X dX7_mix_10 ?_
  refine gq_letr (fun s1 es1 => ?_)
  refine gq_put (C := RX7) (T := TX7) (N := 34) (ws' := gw_M cA a s1) X iX7_mix_X7 tyX7 tyX7_ok nmX7 0 gl_M_c0 rfl 33 (by decide) fX7_mix_X7_33 rfl rfl rfl (Nat.le_of_ble_eq_true rfl) (by rw [es1]; exact gl_M_f33) dX7_mix_11 ?_
  exact gq_vretf X dX7_mix_14 rfl rfl
