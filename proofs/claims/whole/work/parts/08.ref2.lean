theorem mv_self {x : Int32} {n : Nat} (h : vp_in x n) (hn : n < 2147483648) : x = nI (gq_ix x) := by
  obtain ⟨j, hj, rfl⟩ := vp_in_of h hn
  rw [gq_cl (by omega)]
theorem mv_pr {i n : Nat} (h0 : 1 ≤ i) (h : i < n) (hn : n ≤ 9) : vp_in (nI i - 1) 8 := by
  obtain ⟨k, rfl⟩ : ∃ k, i = k + 1 := ⟨i - 1, by omega⟩
  rw [nI_pred]; exact vp_in_nI (by omega) (by decide)
theorem iX7_dropFirst_X7 : ∀ w ∈ u_ws RX7 TX7 34, w ∈ wsX7_dropFirst := by decide +kernel
theorem fX7_dropFirst_X7_20 : Cond.fieldLink RX7 117 (TX7 20).1 (TX7 20).2.1 (TX7 20).2.2.1 ∈ wsX7_dropFirst := by decide +kernel
theorem fX7_dropFirst_X7_21 : Cond.fieldLink RX7 56 (TX7 21).1 (TX7 21).2.1 (TX7 21).2.2.1 ∈ wsX7_dropFirst := by decide +kernel
theorem fX7_dropFirst_X7_22 : Cond.fieldLink RX7 59 (TX7 22).1 (TX7 22).2.1 (TX7 22).2.2.1 ∈ wsX7_dropFirst := by decide +kernel
theorem fX7_dropFirst_X7_23 : Cond.fieldLink RX7 62 (TX7 23).1 (TX7 23).2.1 (TX7 23).2.2.1 ∈ wsX7_dropFirst := by decide +kernel
theorem fX7_dropFirst_X7_24 : Cond.fieldLink RX7 65 (TX7 24).1 (TX7 24).2.1 (TX7 24).2.2.1 ∈ wsX7_dropFirst := by decide +kernel
theorem fX7_dropFirst_X7_25 : Cond.fieldLink RX7 68 (TX7 25).1 (TX7 25).2.1 (TX7 25).2.2.1 ∈ wsX7_dropFirst := by decide +kernel
theorem fX7_dropFirst_X7_26 : Cond.fieldLink RX7 71 (TX7 26).1 (TX7 26).2.1 (TX7 26).2.2.1 ∈ wsX7_dropFirst := by decide +kernel
theorem hv_X7_dropFirst : yX7_dropFirst.cls = RX7 ∧ yX7_dropFirst.cls ≠ "java/lang/invoke/MethodHandle" ∧ yX7_dropFirst.cls ≠ "java/lang/invoke/VarHandle" ∧ (parseMethodDescriptor yX7_dropFirst.desc).map (fun d => d.parameters.length) = some 0 := by decide +kernel
def kb_X7_dropFirst_2 (S : gs_M) (i : Nat) (t3 : gs_M) : gs_M :=
  gq_lt (ms_fetchAt t3 (upd (mg_fetchAt t3) (gq_ix ((nI i) - 1)) ((mg_fetchAt t3) (gq_ix (nI i))))) (fun s4 =>
  gq_lt (ms_fetchCycle s4 (upd (mg_fetchCycle s4) (gq_ix ((nI i) - 1)) ((mg_fetchCycle s4) (gq_ix (nI i))))) (fun s5 =>
  gq_lt (ms_fetchGuess s5 (upd (mg_fetchGuess s5) (gq_ix ((nI i) - 1)) ((mg_fetchGuess s5) (gq_ix (nI i))))) (fun s6 =>
  gq_lt (ms_fetchHistory s6 (upd (mg_fetchHistory s6) (gq_ix ((nI i) - 1)) ((mg_fetchHistory s6) (gq_ix (nI i))))) (fun s7 =>
  gq_lt (ms_fetchReturned s7 (upd (mg_fetchReturned s7) (gq_ix ((nI i) - 1)) ((mg_fetchReturned s7) (gq_ix (nI i))))) (fun s8 =>
  gq_lt (ms_fetchReturns s8 (upd (mg_fetchReturns s8) (gq_ix ((4 * ((nI i) - 1)) + 0)) ((mg_fetchReturns s8) (gq_ix ((4 * (nI i)) + 0))))) (fun s9 =>
  gq_lt (ms_fetchReturns s9 (upd (mg_fetchReturns s9) (gq_ix ((4 * ((nI i) - 1)) + 1)) ((mg_fetchReturns s9) (gq_ix ((4 * (nI i)) + 1))))) (fun s10 =>
  gq_lt (ms_fetchReturns s10 (upd (mg_fetchReturns s10) (gq_ix ((4 * ((nI i) - 1)) + 2)) ((mg_fetchReturns s10) (gq_ix ((4 * (nI i)) + 2))))) (fun s11 =>
  gq_lt (ms_fetchReturns s11 (upd (mg_fetchReturns s11) (gq_ix ((4 * ((nI i) - 1)) + 3)) ((mg_fetchReturns s11) (gq_ix ((4 * (nI i)) + 3))))) (fun s12 =>
  s12)))))))))
theorem mk_dropb (S : gs_M) (i : Nat) (t : gs_M) : mg_acts (kb_X7_dropFirst_2 S i t) = mg_acts t ∧ mg_kinds (kb_X7_dropFirst_2 S i t) = mg_kinds t ∧ mg_as (kb_X7_dropFirst_2 S i t) = mg_as t ∧ mg_bs (kb_X7_dropFirst_2 S i t) = mg_bs t ∧ mg_cs (kb_X7_dropFirst_2 S i t) = mg_cs t ∧ mg_registers (kb_X7_dropFirst_2 S i t) = mg_registers t ∧ mg_memory (kb_X7_dropFirst_2 S i t) = mg_memory t ∧ mg_stack (kb_X7_dropFirst_2 S i t) = mg_stack t ∧ mg_deep (kb_X7_dropFirst_2 S i t) = mg_deep t ∧ mg_way (kb_X7_dropFirst_2 S i t) = mg_way t ∧ mg_depth (kb_X7_dropFirst_2 S i t) = mg_depth t ∧ mg_plain (kb_X7_dropFirst_2 S i t) = mg_plain t ∧ mg_mixed (kb_X7_dropFirst_2 S i t) = mg_mixed t ∧ mg_choice (kb_X7_dropFirst_2 S i t) = mg_choice t ∧ mg_history (kb_X7_dropFirst_2 S i t) = mg_history t ∧ mg_targetAt (kb_X7_dropFirst_2 S i t) = mg_targetAt t ∧ mg_targetKind (kb_X7_dropFirst_2 S i t) = mg_targetKind t ∧ mg_target (kb_X7_dropFirst_2 S i t) = mg_target t ∧ mg_returns (kb_X7_dropFirst_2 S i t) = mg_returns t ∧ mg_returned (kb_X7_dropFirst_2 S i t) = mg_returned t ∧ mg_fetched (kb_X7_dropFirst_2 S i t) = mg_fetched t ∧ mg_runs (kb_X7_dropFirst_2 S i t) = mg_runs t ∧ mg_ended (kb_X7_dropFirst_2 S i t) = mg_ended t ∧ mg_place (kb_X7_dropFirst_2 S i t) = mg_place t ∧ mg_counts (kb_X7_dropFirst_2 S i t) = mg_counts t ∧ mg_doneAt (kb_X7_dropFirst_2 S i t) = mg_doneAt t ∧ mg_keptReturns (kb_X7_dropFirst_2 S i t) = mg_keptReturns t ∧ mg_h (kb_X7_dropFirst_2 S i t) = mg_h t := by
  unfold kb_X7_dropFirst_2
  simp only [gq_lt, mfr_fetchAt, mfr_fetchCycle, mfr_fetchGuess, mfr_fetchHistory, mfr_fetchReturned, mfr_fetchReturns, and_self]
theorem mk_dropi (S s : gs_M) (i : Nat) : mg_acts (gq_it (kb_X7_dropFirst_2 S) 1 s i) = mg_acts s ∧ mg_kinds (gq_it (kb_X7_dropFirst_2 S) 1 s i) = mg_kinds s ∧ mg_as (gq_it (kb_X7_dropFirst_2 S) 1 s i) = mg_as s ∧ mg_bs (gq_it (kb_X7_dropFirst_2 S) 1 s i) = mg_bs s ∧ mg_cs (gq_it (kb_X7_dropFirst_2 S) 1 s i) = mg_cs s ∧ mg_registers (gq_it (kb_X7_dropFirst_2 S) 1 s i) = mg_registers s ∧ mg_memory (gq_it (kb_X7_dropFirst_2 S) 1 s i) = mg_memory s ∧ mg_stack (gq_it (kb_X7_dropFirst_2 S) 1 s i) = mg_stack s ∧ mg_deep (gq_it (kb_X7_dropFirst_2 S) 1 s i) = mg_deep s ∧ mg_way (gq_it (kb_X7_dropFirst_2 S) 1 s i) = mg_way s ∧ mg_depth (gq_it (kb_X7_dropFirst_2 S) 1 s i) = mg_depth s ∧ mg_plain (gq_it (kb_X7_dropFirst_2 S) 1 s i) = mg_plain s ∧ mg_mixed (gq_it (kb_X7_dropFirst_2 S) 1 s i) = mg_mixed s ∧ mg_choice (gq_it (kb_X7_dropFirst_2 S) 1 s i) = mg_choice s ∧ mg_history (gq_it (kb_X7_dropFirst_2 S) 1 s i) = mg_history s ∧ mg_targetAt (gq_it (kb_X7_dropFirst_2 S) 1 s i) = mg_targetAt s ∧ mg_targetKind (gq_it (kb_X7_dropFirst_2 S) 1 s i) = mg_targetKind s ∧ mg_target (gq_it (kb_X7_dropFirst_2 S) 1 s i) = mg_target s ∧ mg_returns (gq_it (kb_X7_dropFirst_2 S) 1 s i) = mg_returns s ∧ mg_returned (gq_it (kb_X7_dropFirst_2 S) 1 s i) = mg_returned s ∧ mg_fetched (gq_it (kb_X7_dropFirst_2 S) 1 s i) = mg_fetched s ∧ mg_runs (gq_it (kb_X7_dropFirst_2 S) 1 s i) = mg_runs s ∧ mg_ended (gq_it (kb_X7_dropFirst_2 S) 1 s i) = mg_ended s ∧ mg_place (gq_it (kb_X7_dropFirst_2 S) 1 s i) = mg_place s ∧ mg_counts (gq_it (kb_X7_dropFirst_2 S) 1 s i) = mg_counts s ∧ mg_doneAt (gq_it (kb_X7_dropFirst_2 S) 1 s i) = mg_doneAt s ∧ mg_keptReturns (gq_it (kb_X7_dropFirst_2 S) 1 s i) = mg_keptReturns s ∧ mg_h (gq_it (kb_X7_dropFirst_2 S) 1 s i) = mg_h s := by
  induction i with
  | zero => simp only [gq_it, and_self]
  | succ i ih =>
    by_cases h : i < 1
    · rw [gq_it, if_pos h]; simp only [and_self]
    · rw [gq_it, if_neg h]
      simp only [mk_dropb, ih, and_self]
def k_X7_dropFirst (S : gs_M) : gs_M :=
  gq_lt (gq_it (kb_X7_dropFirst_2 S) 1 S (gq_ix (mg_fetched S))) (fun s1 =>
  gq_lt (ms_fetched s1 ((mg_fetched s1) - 1)) (fun s13 =>
  s13))
set_option maxHeartbeats 4000000 in
set_option maxRecDepth 100000 in
theorem c_X7_dropFirst (l : Launch) (D : va_G) (cA : ClassId) (a : Nat → Nat) (S : gs_M)  (hf : vp_in (mg_fetched S) 9) (hn1 : 1 ≤ gq_ix (mg_fetched S)) : gq_C l yX7_dropFirst wsX7_dropFirst ({ frames := 0, cells := 0, slots := 0, locals := 0 } : Room) D cA [.ref (a 0)] (gw_M cA a S) (none) (gw_M cA a (k_X7_dropFirst S)) := by
  refine gq_openf (own := RX7) (lv := [(0, .ref (a 0))]) (fun r : gs_M => (none, gw_M cA a r)) (k_X7_dropFirst S) (by decide) rfl rfl (Nat.le_of_ble_eq_true rfl) rfl rfl rfl (fun p e s m args below meth c A X => ?_)
  unfold k_X7_dropFirst
  refine gq_iconst (v := 1) X dX7_dropFirst_0 gq_i1 ?_
  refine gq_istore_n (lv' := [(1, .int 1), (0, .ref (a 0))]) X dX7_dropFirst_1 (by decide) rfl ?_
  refine gq_letr (fun s1 es1 => ?_)
  refine gq_eqw (ws' := gw_M cA a (gq_it (kb_X7_dropFirst_2 S) 1 S 1)) (by rw [gq_it_0]) ?_
  refine gq_loop (N := (gq_ix (mg_fetched S))) (i0 := 1) (fun i => gw_M cA a (gq_it (kb_X7_dropFirst_2 S) 1 S i)) (fun i => [(1, .int (nI i)), (0, .ref (a 0))]) hn1 (fun i hi h0 ih => ?_)
  obtain ⟨t3, et3⟩ : ∃ y, y = gq_it (kb_X7_dropFirst_2 S) 1 S i := ⟨_, rfl⟩
  refine gq_eqw (ws' := gw_M cA a t3) (by rw [et3]) ?_
  refine gq_iload_n X dX7_dropFirst_2 0 rfl ?_
  refine gq_aload_n X dX7_dropFirst_3 1 rfl ?_
  refine gq_get (C := RX7) (T := TX7) (N := 34) X iX7_dropFirst_X7 0 gl_M_c0 rfl 20 (by decide) fX7_dropFirst_X7_20 rfl dX7_dropFirst_4 ?_
  rcases Nat.lt_or_ge i (gq_ix (mg_fetched S)) with hlt | hge
  · refine gq_icmp_ge (tgt := 121) X dX7_dropFirst_7 (by decide) (fun h => absurd h (by rw [et3, (mk_dropi S S i).2.2.2.2.2.2.2.2.2.2.2.2.2.2.2.2.2.2.2.2.1, mv_self hf (by decide)]; exact nI_ge hlt (by have := mv_ix hf; omega))) (fun _ => ?_)
    refine gq_aload_n X dX7_dropFirst_10 1 rfl ?_
    refine gq_get (C := RX7) (T := TX7) (N := 34) X iX7_dropFirst_X7 0 gl_M_c0 rfl 21 (by decide) fX7_dropFirst_X7_21 rfl dX7_dropFirst_11 ?_
    refine gq_iload_n X dX7_dropFirst_14 0 rfl ?_
    refine gq_iconst (v := 1) X dX7_dropFirst_15 gq_i1 ?_
    refine gq_isub X dX7_dropFirst_16 ?_
    refine gq_aload_n X dX7_dropFirst_17 1 rfl ?_
    refine gq_get (C := RX7) (T := TX7) (N := 34) X iX7_dropFirst_X7 0 gl_M_c0 rfl 21 (by decide) fX7_dropFirst_X7_21 rfl dX7_dropFirst_18 ?_
    refine gq_iload_n X dX7_dropFirst_21 0 rfl ?_
    refine gq_ald X 15 gl_M_c15 (vp_in_nI (show i < 8 by have := mv_ix hf; omega) (by decide)) dX7_dropFirst_22 ?_
    obtain ⟨s4, es4⟩ : ∃ y, y = ms_fetchAt t3 (upd (mg_fetchAt t3) (gq_ix ((nI i) - 1)) ((mg_fetchAt t3) (gq_ix (nI i)))) := ⟨_, rfl⟩
    refine gq_ast (ws' := gw_M cA a s4) X 15 gl_M_c15 (mv_pr h0 hlt (by have := mv_ix hf; omega)) (by rw [es4]; exact gl_M_a15) dX7_dropFirst_23 ?_
    refine gq_aload_n X dX7_dropFirst_24 1 rfl ?_
    refine gq_get (C := RX7) (T := TX7) (N := 34) X iX7_dropFirst_X7 0 gl_M_c0 rfl 22 (by decide) fX7_dropFirst_X7_22 rfl dX7_dropFirst_25 ?_
    refine gq_iload_n X dX7_dropFirst_28 0 rfl ?_
    refine gq_iconst (v := 1) X dX7_dropFirst_29 gq_i1 ?_
    refine gq_isub X dX7_dropFirst_30 ?_
    refine gq_aload_n X dX7_dropFirst_31 1 rfl ?_
    refine gq_get (C := RX7) (T := TX7) (N := 34) X iX7_dropFirst_X7 0 gl_M_c0 rfl 22 (by decide) fX7_dropFirst_X7_22 rfl dX7_dropFirst_32 ?_
    refine gq_iload_n X dX7_dropFirst_35 0 rfl ?_
    refine gq_ald X 16 gl_M_c16 (vp_in_nI (show i < 8 by have := mv_ix hf; omega) (by decide)) dX7_dropFirst_36 ?_
    obtain ⟨s5, es5⟩ : ∃ y, y = ms_fetchCycle s4 (upd (mg_fetchCycle s4) (gq_ix ((nI i) - 1)) ((mg_fetchCycle s4) (gq_ix (nI i)))) := ⟨_, rfl⟩
    refine gq_ast (ws' := gw_M cA a s5) X 16 gl_M_c16 (mv_pr h0 hlt (by have := mv_ix hf; omega)) (by rw [es5]; exact gl_M_a16) dX7_dropFirst_37 ?_
    refine gq_aload_n X dX7_dropFirst_38 1 rfl ?_
    refine gq_get (C := RX7) (T := TX7) (N := 34) X iX7_dropFirst_X7 0 gl_M_c0 rfl 23 (by decide) fX7_dropFirst_X7_23 rfl dX7_dropFirst_39 ?_
    refine gq_iload_n X dX7_dropFirst_42 0 rfl ?_
    refine gq_iconst (v := 1) X dX7_dropFirst_43 gq_i1 ?_
    refine gq_isub X dX7_dropFirst_44 ?_
    refine gq_aload_n X dX7_dropFirst_45 1 rfl ?_
    refine gq_get (C := RX7) (T := TX7) (N := 34) X iX7_dropFirst_X7 0 gl_M_c0 rfl 23 (by decide) fX7_dropFirst_X7_23 rfl dX7_dropFirst_46 ?_
    refine gq_iload_n X dX7_dropFirst_49 0 rfl ?_
    refine gq_ald X 17 gl_M_c17 (vp_in_nI (show i < 8 by have := mv_ix hf; omega) (by decide)) dX7_dropFirst_50 ?_
    obtain ⟨s6, es6⟩ : ∃ y, y = ms_fetchGuess s5 (upd (mg_fetchGuess s5) (gq_ix ((nI i) - 1)) ((mg_fetchGuess s5) (gq_ix (nI i)))) := ⟨_, rfl⟩
    refine gq_ast (ws' := gw_M cA a s6) X 17 gl_M_c17 (mv_pr h0 hlt (by have := mv_ix hf; omega)) (by rw [es6]; exact gl_M_a17) dX7_dropFirst_51 ?_
    refine gq_aload_n X dX7_dropFirst_52 1 rfl ?_
    refine gq_get (C := RX7) (T := TX7) (N := 34) X iX7_dropFirst_X7 0 gl_M_c0 rfl 24 (by decide) fX7_dropFirst_X7_24 rfl dX7_dropFirst_53 ?_
    refine gq_iload_n X dX7_dropFirst_56 0 rfl ?_
    refine gq_iconst (v := 1) X dX7_dropFirst_57 gq_i1 ?_
    refine gq_isub X dX7_dropFirst_58 ?_
    refine gq_aload_n X dX7_dropFirst_59 1 rfl ?_
    refine gq_get (C := RX7) (T := TX7) (N := 34) X iX7_dropFirst_X7 0 gl_M_c0 rfl 24 (by decide) fX7_dropFirst_X7_24 rfl dX7_dropFirst_60 ?_
    refine gq_iload_n X dX7_dropFirst_63 0 rfl ?_
    refine gq_ald X 18 gl_M_c18 (vp_in_nI (show i < 8 by have := mv_ix hf; omega) (by decide)) dX7_dropFirst_64 ?_
    obtain ⟨s7, es7⟩ : ∃ y, y = ms_fetchHistory s6 (upd (mg_fetchHistory s6) (gq_ix ((nI i) - 1)) ((mg_fetchHistory s6) (gq_ix (nI i)))) := ⟨_, rfl⟩
    refine gq_ast (ws' := gw_M cA a s7) X 18 gl_M_c18 (mv_pr h0 hlt (by have := mv_ix hf; omega)) (by rw [es7]; exact gl_M_a18) dX7_dropFirst_65 ?_
    refine gq_aload_n X dX7_dropFirst_66 1 rfl ?_
    refine gq_get (C := RX7) (T := TX7) (N := 34) X iX7_dropFirst_X7 0 gl_M_c0 rfl 25 (by decide) fX7_dropFirst_X7_25 rfl dX7_dropFirst_67 ?_
    refine gq_iload_n X dX7_dropFirst_70 0 rfl ?_
    refine gq_iconst (v := 1) X dX7_dropFirst_71 gq_i1 ?_
    refine gq_isub X dX7_dropFirst_72 ?_
    refine gq_aload_n X dX7_dropFirst_73 1 rfl ?_
    refine gq_get (C := RX7) (T := TX7) (N := 34) X iX7_dropFirst_X7 0 gl_M_c0 rfl 25 (by decide) fX7_dropFirst_X7_25 rfl dX7_dropFirst_74 ?_
    refine gq_iload_n X dX7_dropFirst_77 0 rfl ?_
    refine gq_ald X 19 gl_M_c19 (vp_in_nI (show i < 8 by have := mv_ix hf; omega) (by decide)) dX7_dropFirst_78 ?_
    obtain ⟨s8, es8⟩ : ∃ y, y = ms_fetchReturned s7 (upd (mg_fetchReturned s7) (gq_ix ((nI i) - 1)) ((mg_fetchReturned s7) (gq_ix (nI i)))) := ⟨_, rfl⟩
    refine gq_ast (ws' := gw_M cA a s8) X 19 gl_M_c19 (mv_pr h0 hlt (by have := mv_ix hf; omega)) (by rw [es8]; exact gl_M_a19) dX7_dropFirst_79 ?_
    refine gq_iconst (v := 0) X dX7_dropFirst_80 gq_i0 ?_
    refine gq_istore_n (lv' := [(2, .int 0), (1, .int (nI i)), (0, .ref (a 0))]) X dX7_dropFirst_81 (by decide) rfl ?_
    refine gq_iload_n X dX7_dropFirst_82 0 rfl ?_
    refine gq_iconst (v := 4) X dX7_dropFirst_83 gq_i4 ?_
    refine gq_icmp_ge (tgt := 115) X dX7_dropFirst_84 (by decide) (fun h => absurd h (by decide)) (fun _ => ?_)
    refine gq_aload_n X dX7_dropFirst_87 2 rfl ?_
    refine gq_get (C := RX7) (T := TX7) (N := 34) X iX7_dropFirst_X7 0 gl_M_c0 rfl 26 (by decide) fX7_dropFirst_X7_26 rfl dX7_dropFirst_88 ?_
    refine gq_iconst (v := 4) X dX7_dropFirst_91 gq_i4 ?_
    refine gq_iload_n X dX7_dropFirst_92 1 rfl ?_
    refine gq_iconst (v := 1) X dX7_dropFirst_93 gq_i1 ?_
    refine gq_isub X dX7_dropFirst_94 ?_
    refine gq_imul X dX7_dropFirst_95 ?_
    refine gq_iload_n X dX7_dropFirst_96 0 rfl ?_
    refine gq_iadd X dX7_dropFirst_97 ?_
    refine gq_aload_n X dX7_dropFirst_98 2 rfl ?_
    refine gq_get (C := RX7) (T := TX7) (N := 34) X iX7_dropFirst_X7 0 gl_M_c0 rfl 26 (by decide) fX7_dropFirst_X7_26 rfl dX7_dropFirst_99 ?_
    refine gq_iconst (v := 4) X dX7_dropFirst_102 gq_i4 ?_
    refine gq_iload_n X dX7_dropFirst_103 1 rfl ?_
    refine gq_imul X dX7_dropFirst_104 ?_
    refine gq_iload_n X dX7_dropFirst_105 0 rfl ?_
    refine gq_iadd X dX7_dropFirst_106 ?_
    refine gq_ald X 20 gl_M_c20 (mv_4 (vp_in_nI (show i < 8 by have := mv_ix hf; omega) (by decide))).1 dX7_dropFirst_107 ?_
    obtain ⟨s9, es9⟩ : ∃ y, y = ms_fetchReturns s8 (upd (mg_fetchReturns s8) (gq_ix ((4 * ((nI i) - 1)) + 0)) ((mg_fetchReturns s8) (gq_ix ((4 * (nI i)) + 0)))) := ⟨_, rfl⟩
    refine gq_ast (ws' := gw_M cA a s9) X 20 gl_M_c20 (mv_4 (mv_pr h0 hlt (by have := mv_ix hf; omega))).1 (by rw [es9]; exact gl_M_a20) dX7_dropFirst_108 ?_
    refine gq_iinc (lv' := [(2, .int 1), (1, .int (nI i)), (0, .ref (a 0))]) X dX7_dropFirst_109 0 rfl (by decide) (by decide) rfl ?_
    refine gq_goto (tgt := 82) X dX7_dropFirst_112 (by decide) ?_
    refine gq_iload_n X dX7_dropFirst_82 0 rfl ?_
    refine gq_iconst (v := 4) X dX7_dropFirst_83 gq_i4 ?_
    refine gq_icmp_ge (tgt := 115) X dX7_dropFirst_84 (by decide) (fun h => absurd h (by decide)) (fun _ => ?_)
    refine gq_aload_n X dX7_dropFirst_87 2 rfl ?_
    refine gq_get (C := RX7) (T := TX7) (N := 34) X iX7_dropFirst_X7 0 gl_M_c0 rfl 26 (by decide) fX7_dropFirst_X7_26 rfl dX7_dropFirst_88 ?_
    refine gq_iconst (v := 4) X dX7_dropFirst_91 gq_i4 ?_
    refine gq_iload_n X dX7_dropFirst_92 1 rfl ?_
    refine gq_iconst (v := 1) X dX7_dropFirst_93 gq_i1 ?_
    refine gq_isub X dX7_dropFirst_94 ?_
    refine gq_imul X dX7_dropFirst_95 ?_
    refine gq_iload_n X dX7_dropFirst_96 0 rfl ?_
    refine gq_iadd X dX7_dropFirst_97 ?_
    refine gq_aload_n X dX7_dropFirst_98 2 rfl ?_
    refine gq_get (C := RX7) (T := TX7) (N := 34) X iX7_dropFirst_X7 0 gl_M_c0 rfl 26 (by decide) fX7_dropFirst_X7_26 rfl dX7_dropFirst_99 ?_
    refine gq_iconst (v := 4) X dX7_dropFirst_102 gq_i4 ?_
    refine gq_iload_n X dX7_dropFirst_103 1 rfl ?_
    refine gq_imul X dX7_dropFirst_104 ?_
    refine gq_iload_n X dX7_dropFirst_105 0 rfl ?_
    refine gq_iadd X dX7_dropFirst_106 ?_
    refine gq_ald X 20 gl_M_c20 (mv_4 (vp_in_nI (show i < 8 by have := mv_ix hf; omega) (by decide))).2.1 dX7_dropFirst_107 ?_
    obtain ⟨s10, es10⟩ : ∃ y, y = ms_fetchReturns s9 (upd (mg_fetchReturns s9) (gq_ix ((4 * ((nI i) - 1)) + 1)) ((mg_fetchReturns s9) (gq_ix ((4 * (nI i)) + 1)))) := ⟨_, rfl⟩
    refine gq_ast (ws' := gw_M cA a s10) X 20 gl_M_c20 (mv_4 (mv_pr h0 hlt (by have := mv_ix hf; omega))).2.1 (by rw [es10]; exact gl_M_a20) dX7_dropFirst_108 ?_
    refine gq_iinc (lv' := [(2, .int 2), (1, .int (nI i)), (0, .ref (a 0))]) X dX7_dropFirst_109 0 rfl (by decide) (by decide) rfl ?_
    refine gq_goto (tgt := 82) X dX7_dropFirst_112 (by decide) ?_
    refine gq_iload_n X dX7_dropFirst_82 0 rfl ?_
    refine gq_iconst (v := 4) X dX7_dropFirst_83 gq_i4 ?_
    refine gq_icmp_ge (tgt := 115) X dX7_dropFirst_84 (by decide) (fun h => absurd h (by decide)) (fun _ => ?_)
    refine gq_aload_n X dX7_dropFirst_87 2 rfl ?_
    refine gq_get (C := RX7) (T := TX7) (N := 34) X iX7_dropFirst_X7 0 gl_M_c0 rfl 26 (by decide) fX7_dropFirst_X7_26 rfl dX7_dropFirst_88 ?_
    refine gq_iconst (v := 4) X dX7_dropFirst_91 gq_i4 ?_
    refine gq_iload_n X dX7_dropFirst_92 1 rfl ?_
    refine gq_iconst (v := 1) X dX7_dropFirst_93 gq_i1 ?_
    refine gq_isub X dX7_dropFirst_94 ?_
    refine gq_imul X dX7_dropFirst_95 ?_
    refine gq_iload_n X dX7_dropFirst_96 0 rfl ?_
    refine gq_iadd X dX7_dropFirst_97 ?_
    refine gq_aload_n X dX7_dropFirst_98 2 rfl ?_
    refine gq_get (C := RX7) (T := TX7) (N := 34) X iX7_dropFirst_X7 0 gl_M_c0 rfl 26 (by decide) fX7_dropFirst_X7_26 rfl dX7_dropFirst_99 ?_
    refine gq_iconst (v := 4) X dX7_dropFirst_102 gq_i4 ?_
    refine gq_iload_n X dX7_dropFirst_103 1 rfl ?_
    refine gq_imul X dX7_dropFirst_104 ?_
    refine gq_iload_n X dX7_dropFirst_105 0 rfl ?_
    refine gq_iadd X dX7_dropFirst_106 ?_
    refine gq_ald X 20 gl_M_c20 (mv_4 (vp_in_nI (show i < 8 by have := mv_ix hf; omega) (by decide))).2.2.1 dX7_dropFirst_107 ?_
    obtain ⟨s11, es11⟩ : ∃ y, y = ms_fetchReturns s10 (upd (mg_fetchReturns s10) (gq_ix ((4 * ((nI i) - 1)) + 2)) ((mg_fetchReturns s10) (gq_ix ((4 * (nI i)) + 2)))) := ⟨_, rfl⟩
    refine gq_ast (ws' := gw_M cA a s11) X 20 gl_M_c20 (mv_4 (mv_pr h0 hlt (by have := mv_ix hf; omega))).2.2.1 (by rw [es11]; exact gl_M_a20) dX7_dropFirst_108 ?_
    refine gq_iinc (lv' := [(2, .int 3), (1, .int (nI i)), (0, .ref (a 0))]) X dX7_dropFirst_109 0 rfl (by decide) (by decide) rfl ?_
    refine gq_goto (tgt := 82) X dX7_dropFirst_112 (by decide) ?_
    refine gq_iload_n X dX7_dropFirst_82 0 rfl ?_
    refine gq_iconst (v := 4) X dX7_dropFirst_83 gq_i4 ?_
    refine gq_icmp_ge (tgt := 115) X dX7_dropFirst_84 (by decide) (fun h => absurd h (by decide)) (fun _ => ?_)
    refine gq_aload_n X dX7_dropFirst_87 2 rfl ?_
    refine gq_get (C := RX7) (T := TX7) (N := 34) X iX7_dropFirst_X7 0 gl_M_c0 rfl 26 (by decide) fX7_dropFirst_X7_26 rfl dX7_dropFirst_88 ?_
    refine gq_iconst (v := 4) X dX7_dropFirst_91 gq_i4 ?_
    refine gq_iload_n X dX7_dropFirst_92 1 rfl ?_
    refine gq_iconst (v := 1) X dX7_dropFirst_93 gq_i1 ?_
    refine gq_isub X dX7_dropFirst_94 ?_
    refine gq_imul X dX7_dropFirst_95 ?_
    refine gq_iload_n X dX7_dropFirst_96 0 rfl ?_
    refine gq_iadd X dX7_dropFirst_97 ?_
    refine gq_aload_n X dX7_dropFirst_98 2 rfl ?_
    refine gq_get (C := RX7) (T := TX7) (N := 34) X iX7_dropFirst_X7 0 gl_M_c0 rfl 26 (by decide) fX7_dropFirst_X7_26 rfl dX7_dropFirst_99 ?_
    refine gq_iconst (v := 4) X dX7_dropFirst_102 gq_i4 ?_
    refine gq_iload_n X dX7_dropFirst_103 1 rfl ?_
    refine gq_imul X dX7_dropFirst_104 ?_
    refine gq_iload_n X dX7_dropFirst_105 0 rfl ?_
    refine gq_iadd X dX7_dropFirst_106 ?_
    refine gq_ald X 20 gl_M_c20 (mv_4 (vp_in_nI (show i < 8 by have := mv_ix hf; omega) (by decide))).2.2.2 dX7_dropFirst_107 ?_
    obtain ⟨s12, es12⟩ : ∃ y, y = ms_fetchReturns s11 (upd (mg_fetchReturns s11) (gq_ix ((4 * ((nI i) - 1)) + 3)) ((mg_fetchReturns s11) (gq_ix ((4 * (nI i)) + 3)))) := ⟨_, rfl⟩
    refine gq_ast (ws' := gw_M cA a s12) X 20 gl_M_c20 (mv_4 (mv_pr h0 hlt (by have := mv_ix hf; omega))).2.2.2 (by rw [es12]; exact gl_M_a20) dX7_dropFirst_108 ?_
    refine gq_iinc (lv' := [(2, .int 4), (1, .int (nI i)), (0, .ref (a 0))]) X dX7_dropFirst_109 0 rfl (by decide) (by decide) rfl ?_
    refine gq_goto (tgt := 82) X dX7_dropFirst_112 (by decide) ?_
    refine gq_iload_n X dX7_dropFirst_82 0 rfl ?_
    refine gq_iconst (v := 4) X dX7_dropFirst_83 gq_i4 ?_
    refine gq_icmp_ge (tgt := 115) X dX7_dropFirst_84 (by decide) (fun _ => ?_) (fun h => absurd (by decide) h)
    refine gq_iinc (lv' := [(1, .int (nI (i + 1))), (2, .int 4), (0, .ref (a 0))]) X dX7_dropFirst_115 1 rfl (nI_1 i) (by decide) rfl ?_
    refine gq_goto (tgt := 2) X dX7_dropFirst_118 (by decide) ?_
    refine gq_eqlv (lv' := [(1, .int (nI (i + 1))), (0, .ref (a 0))]) [0, 2] rfl ?_
    refine gq_eqw (ws' := gw_M cA a (gq_it (kb_X7_dropFirst_2 S) 1 S (i + 1))) (by rw [gq_it_s _ _ h0, ← et3]; rw [es12, es11, es10, es9, es8, es7, es6, es5, es4]; rfl) ?_
    exact ih hlt
  · have hiN : (gq_ix (mg_fetched S)) = i := by omega
    subst hiN
    refine gq_icmp_ge (tgt := 121) X dX7_dropFirst_7 (by decide) (fun _ => ?_) (fun h => absurd (by rw [et3, (mk_dropi S S _).2.2.2.2.2.2.2.2.2.2.2.2.2.2.2.2.2.2.2.2.1, mv_self hf (by decide), gq_cl (by have := mv_ix hf; omega)]; exact nI_le (Nat.le_refl _) (by have := mv_ix hf; omega)) h)
    refine gq_eqw (ws' := gw_M cA a s1) (by rw [et3, es1]) ?_
    refine gq_aload_n X dX7_dropFirst_121 1 rfl ?_
    refine gq_dup X dX7_dropFirst_122 rfl ?_
    refine gq_get (C := RX7) (T := TX7) (N := 34) X iX7_dropFirst_X7 0 gl_M_c0 rfl 20 (by decide) fX7_dropFirst_X7_20 rfl dX7_dropFirst_123 ?_
    refine gq_iconst (v := 1) X dX7_dropFirst_126 gq_i1 ?_
    refine gq_isub X dX7_dropFirst_127 ?_
    refine gq_letr (fun s13 es13 => ?_)
    refine gq_put (C := RX7) (T := TX7) (N := 34) (ws' := gw_M cA a s13) X iX7_dropFirst_X7 tyX7 tyX7_ok nmX7 0 gl_M_c0 rfl 20 (by decide) fX7_dropFirst_X7_20 rfl rfl rfl (Nat.le_of_ble_eq_true rfl) (by rw [es13]; exact gl_M_f20) dX7_dropFirst_128 ?_
    exact gq_vretf X dX7_dropFirst_131 rfl rfl
theorem mk_drop (S : gs_M) : mg_acts (k_X7_dropFirst S) = mg_acts S ∧ mg_kinds (k_X7_dropFirst S) = mg_kinds S ∧ mg_as (k_X7_dropFirst S) = mg_as S ∧ mg_bs (k_X7_dropFirst S) = mg_bs S ∧ mg_cs (k_X7_dropFirst S) = mg_cs S ∧ mg_registers (k_X7_dropFirst S) = mg_registers S ∧ mg_memory (k_X7_dropFirst S) = mg_memory S ∧ mg_stack (k_X7_dropFirst S) = mg_stack S ∧ mg_deep (k_X7_dropFirst S) = mg_deep S ∧ mg_way (k_X7_dropFirst S) = mg_way S ∧ mg_depth (k_X7_dropFirst S) = mg_depth S ∧ mg_plain (k_X7_dropFirst S) = mg_plain S ∧ mg_mixed (k_X7_dropFirst S) = mg_mixed S ∧ mg_choice (k_X7_dropFirst S) = mg_choice S ∧ mg_history (k_X7_dropFirst S) = mg_history S ∧ mg_targetAt (k_X7_dropFirst S) = mg_targetAt S ∧ mg_targetKind (k_X7_dropFirst S) = mg_targetKind S ∧ mg_target (k_X7_dropFirst S) = mg_target S ∧ mg_returns (k_X7_dropFirst S) = mg_returns S ∧ mg_returned (k_X7_dropFirst S) = mg_returned S ∧ mg_runs (k_X7_dropFirst S) = mg_runs S ∧ mg_ended (k_X7_dropFirst S) = mg_ended S ∧ mg_place (k_X7_dropFirst S) = mg_place S ∧ mg_counts (k_X7_dropFirst S) = mg_counts S ∧ mg_doneAt (k_X7_dropFirst S) = mg_doneAt S ∧ mg_keptReturns (k_X7_dropFirst S) = mg_keptReturns S ∧ mg_h (k_X7_dropFirst S) = mg_h S := by
  unfold k_X7_dropFirst
  simp only [gq_lt, mfr_fetched, mk_dropi, and_self]
theorem ml_drop_fetched (S : gs_M) : mg_fetched (k_X7_dropFirst S) = mg_fetched S - 1 := by
  unfold k_X7_dropFirst
  simp only [gq_lt, mfr_fetched, mk_dropi]
def m_and (a b : Bool) : Bool := if a = true then b else false
def m_noteT (S : gs_M) (p k g : Int32) : gs_M := ms_target (ms_targetKind (ms_targetAt S (upd (mg_targetAt S) (gq_ix (gq_rem p 8)) p)) (upd (mg_targetKind S) (gq_ix (gq_rem p 8)) k)) (upd (mg_target S) (gq_ix (gq_rem p 8)) g)
def m_noteD (S : gs_M) (p : Int32) : gs_M := if 300 ≤ (mg_counts S) (gq_ix 1) then S else ms_doneAt S (upd (mg_doneAt S) (gq_ix ((mg_counts S) (gq_ix 1))) p)
theorem mk_ite {P : gs_M → Prop} {c : Prop} {i : Decidable c} {A B : Int32 × gs_M} (ha : P A.2) (hb : P B.2) : P (@ite _ c i A B).2 := by
  by_cases h : c
  · rw [if_pos h]; exact ha
  · rw [if_neg h]; exact hb
def mk_does_K (S T : gs_M) : Prop := mg_acts T = mg_acts S ∧ mg_kinds T = mg_kinds S ∧ mg_as T = mg_as S ∧ mg_bs T = mg_bs S ∧ mg_cs T = mg_cs S ∧ mg_way T = mg_way S ∧ mg_depth T = mg_depth S ∧ mg_plain T = mg_plain S ∧ mg_mixed T = mg_mixed S ∧ mg_choice T = mg_choice S ∧ mg_history T = mg_history S ∧ mg_targetAt T = mg_targetAt S ∧ mg_targetKind T = mg_targetKind S ∧ mg_target T = mg_target S ∧ mg_returns T = mg_returns S ∧ mg_returned T = mg_returned S ∧ mg_fetched T = mg_fetched S ∧ mg_fetchAt T = mg_fetchAt S ∧ mg_fetchCycle T = mg_fetchCycle S ∧ mg_fetchGuess T = mg_fetchGuess S ∧ mg_fetchHistory T = mg_fetchHistory S ∧ mg_fetchReturned T = mg_fetchReturned S ∧ mg_fetchReturns T = mg_fetchReturns S ∧ mg_runs T = mg_runs S ∧ mg_ended T = mg_ended S ∧ mg_place T = mg_place S ∧ mg_counts T = mg_counts S ∧ mg_doneAt T = mg_doneAt S ∧ mg_keptReturns T = mg_keptReturns S ∧ mg_h T = mg_h S
theorem mk_does_P (S : gs_M) (x : Int32) : mk_does_K S (k_X7_does S x).2 := by
  unfold k_X7_does
  simp only [gq_lt]
  repeat' (refine mk_ite (P := mk_does_K S) ?_ ?_)
  all_goals simp only [mk_does_K, mfr_registers, mfr_memory, mfr_stack, mfr_deep, and_self]
theorem mk_does (S : gs_M) (x : Int32) : mg_acts (k_X7_does S x).2 = mg_acts S ∧ mg_kinds (k_X7_does S x).2 = mg_kinds S ∧ mg_as (k_X7_does S x).2 = mg_as S ∧ mg_bs (k_X7_does S x).2 = mg_bs S ∧ mg_cs (k_X7_does S x).2 = mg_cs S ∧ mg_way (k_X7_does S x).2 = mg_way S ∧ mg_depth (k_X7_does S x).2 = mg_depth S ∧ mg_plain (k_X7_does S x).2 = mg_plain S ∧ mg_mixed (k_X7_does S x).2 = mg_mixed S ∧ mg_choice (k_X7_does S x).2 = mg_choice S ∧ mg_history (k_X7_does S x).2 = mg_history S ∧ mg_targetAt (k_X7_does S x).2 = mg_targetAt S ∧ mg_targetKind (k_X7_does S x).2 = mg_targetKind S ∧ mg_target (k_X7_does S x).2 = mg_target S ∧ mg_returns (k_X7_does S x).2 = mg_returns S ∧ mg_returned (k_X7_does S x).2 = mg_returned S ∧ mg_fetched (k_X7_does S x).2 = mg_fetched S ∧ mg_fetchAt (k_X7_does S x).2 = mg_fetchAt S ∧ mg_fetchCycle (k_X7_does S x).2 = mg_fetchCycle S ∧ mg_fetchGuess (k_X7_does S x).2 = mg_fetchGuess S ∧ mg_fetchHistory (k_X7_does S x).2 = mg_fetchHistory S ∧ mg_fetchReturned (k_X7_does S x).2 = mg_fetchReturned S ∧ mg_fetchReturns (k_X7_does S x).2 = mg_fetchReturns S ∧ mg_runs (k_X7_does S x).2 = mg_runs S ∧ mg_ended (k_X7_does S x).2 = mg_ended S ∧ mg_place (k_X7_does S x).2 = mg_place S ∧ mg_counts (k_X7_does S x).2 = mg_counts S ∧ mg_doneAt (k_X7_does S x).2 = mg_doneAt S ∧ mg_keptReturns (k_X7_does S x).2 = mg_keptReturns S ∧ mg_h (k_X7_does S x).2 = mg_h S := mk_does_P S x
theorem mk_learn (S : gs_M) (x : Int32) (b : Bool) (k : Int32) : mg_acts (k_X7_learn S x b k) = mg_acts S ∧ mg_kinds (k_X7_learn S x b k) = mg_kinds S ∧ mg_as (k_X7_learn S x b k) = mg_as S ∧ mg_bs (k_X7_learn S x b k) = mg_bs S ∧ mg_cs (k_X7_learn S x b k) = mg_cs S ∧ mg_registers (k_X7_learn S x b k) = mg_registers S ∧ mg_memory (k_X7_learn S x b k) = mg_memory S ∧ mg_stack (k_X7_learn S x b k) = mg_stack S ∧ mg_deep (k_X7_learn S x b k) = mg_deep S ∧ mg_way (k_X7_learn S x b k) = mg_way S ∧ mg_depth (k_X7_learn S x b k) = mg_depth S ∧ mg_history (k_X7_learn S x b k) = mg_history S ∧ mg_targetAt (k_X7_learn S x b k) = mg_targetAt S ∧ mg_targetKind (k_X7_learn S x b k) = mg_targetKind S ∧ mg_target (k_X7_learn S x b k) = mg_target S ∧ mg_returns (k_X7_learn S x b k) = mg_returns S ∧ mg_returned (k_X7_learn S x b k) = mg_returned S ∧ mg_fetched (k_X7_learn S x b k) = mg_fetched S ∧ mg_fetchAt (k_X7_learn S x b k) = mg_fetchAt S ∧ mg_fetchCycle (k_X7_learn S x b k) = mg_fetchCycle S ∧ mg_fetchGuess (k_X7_learn S x b k) = mg_fetchGuess S ∧ mg_fetchHistory (k_X7_learn S x b k) = mg_fetchHistory S ∧ mg_fetchReturned (k_X7_learn S x b k) = mg_fetchReturned S ∧ mg_fetchReturns (k_X7_learn S x b k) = mg_fetchReturns S ∧ mg_runs (k_X7_learn S x b k) = mg_runs S ∧ mg_ended (k_X7_learn S x b k) = mg_ended S ∧ mg_place (k_X7_learn S x b k) = mg_place S ∧ mg_counts (k_X7_learn S x b k) = mg_counts S ∧ mg_doneAt (k_X7_learn S x b k) = mg_doneAt S ∧ mg_keptReturns (k_X7_learn S x b k) = mg_keptReturns S ∧ mg_h (k_X7_learn S x b k) = mg_h S := by
  unfold k_X7_learn
  simp only [gq_lt]
  repeat' split
  all_goals simp only [mfr_plain, mfr_mixed, mfr_choice, and_self]
theorem mk_noteT (S : gs_M) (p k g : Int32) : mg_acts (m_noteT S p k g) = mg_acts S ∧ mg_kinds (m_noteT S p k g) = mg_kinds S ∧ mg_as (m_noteT S p k g) = mg_as S ∧ mg_bs (m_noteT S p k g) = mg_bs S ∧ mg_cs (m_noteT S p k g) = mg_cs S ∧ mg_registers (m_noteT S p k g) = mg_registers S ∧ mg_memory (m_noteT S p k g) = mg_memory S ∧ mg_stack (m_noteT S p k g) = mg_stack S ∧ mg_deep (m_noteT S p k g) = mg_deep S ∧ mg_way (m_noteT S p k g) = mg_way S ∧ mg_depth (m_noteT S p k g) = mg_depth S ∧ mg_plain (m_noteT S p k g) = mg_plain S ∧ mg_mixed (m_noteT S p k g) = mg_mixed S ∧ mg_choice (m_noteT S p k g) = mg_choice S ∧ mg_history (m_noteT S p k g) = mg_history S ∧ mg_returns (m_noteT S p k g) = mg_returns S ∧ mg_returned (m_noteT S p k g) = mg_returned S ∧ mg_fetched (m_noteT S p k g) = mg_fetched S ∧ mg_fetchAt (m_noteT S p k g) = mg_fetchAt S ∧ mg_fetchCycle (m_noteT S p k g) = mg_fetchCycle S ∧ mg_fetchGuess (m_noteT S p k g) = mg_fetchGuess S ∧ mg_fetchHistory (m_noteT S p k g) = mg_fetchHistory S ∧ mg_fetchReturned (m_noteT S p k g) = mg_fetchReturned S ∧ mg_fetchReturns (m_noteT S p k g) = mg_fetchReturns S ∧ mg_runs (m_noteT S p k g) = mg_runs S ∧ mg_ended (m_noteT S p k g) = mg_ended S ∧ mg_place (m_noteT S p k g) = mg_place S ∧ mg_counts (m_noteT S p k g) = mg_counts S ∧ mg_doneAt (m_noteT S p k g) = mg_doneAt S ∧ mg_keptReturns (m_noteT S p k g) = mg_keptReturns S ∧ mg_h (m_noteT S p k g) = mg_h S := by
  unfold m_noteT
  simp only [mfr_targetAt, mfr_targetKind, mfr_target, and_self]
theorem mk_noteD (S : gs_M) (p : Int32) : mg_acts (m_noteD S p) = mg_acts S ∧ mg_kinds (m_noteD S p) = mg_kinds S ∧ mg_as (m_noteD S p) = mg_as S ∧ mg_bs (m_noteD S p) = mg_bs S ∧ mg_cs (m_noteD S p) = mg_cs S ∧ mg_registers (m_noteD S p) = mg_registers S ∧ mg_memory (m_noteD S p) = mg_memory S ∧ mg_stack (m_noteD S p) = mg_stack S ∧ mg_deep (m_noteD S p) = mg_deep S ∧ mg_way (m_noteD S p) = mg_way S ∧ mg_depth (m_noteD S p) = mg_depth S ∧ mg_plain (m_noteD S p) = mg_plain S ∧ mg_mixed (m_noteD S p) = mg_mixed S ∧ mg_choice (m_noteD S p) = mg_choice S ∧ mg_history (m_noteD S p) = mg_history S ∧ mg_targetAt (m_noteD S p) = mg_targetAt S ∧ mg_targetKind (m_noteD S p) = mg_targetKind S ∧ mg_target (m_noteD S p) = mg_target S ∧ mg_returns (m_noteD S p) = mg_returns S ∧ mg_returned (m_noteD S p) = mg_returned S ∧ mg_fetched (m_noteD S p) = mg_fetched S ∧ mg_fetchAt (m_noteD S p) = mg_fetchAt S ∧ mg_fetchCycle (m_noteD S p) = mg_fetchCycle S ∧ mg_fetchGuess (m_noteD S p) = mg_fetchGuess S ∧ mg_fetchHistory (m_noteD S p) = mg_fetchHistory S ∧ mg_fetchReturned (m_noteD S p) = mg_fetchReturned S ∧ mg_fetchReturns (m_noteD S p) = mg_fetchReturns S ∧ mg_runs (m_noteD S p) = mg_runs S ∧ mg_ended (m_noteD S p) = mg_ended S ∧ mg_place (m_noteD S p) = mg_place S ∧ mg_counts (m_noteD S p) = mg_counts S ∧ mg_keptReturns (m_noteD S p) = mg_keptReturns S ∧ mg_h (m_noteD S p) = mg_h S := by
  unfold m_noteD
  split
  · simp only [and_self]
  · simp only [mfr_doneAt, and_self]
theorem iX7_finishFirst_X7 : ∀ w ∈ u_ws RX7 TX7 34, w ∈ wsX7_finishFirst := by decide +kernel
theorem fX7_finishFirst_X7_1 : Cond.fieldLink RX7 7 (TX7 1).1 (TX7 1).2.1 (TX7 1).2.2.1 ∈ wsX7_finishFirst := by decide +kernel
theorem fX7_finishFirst_X7_14 : Cond.fieldLink RX7 89 (TX7 14).1 (TX7 14).2.1 (TX7 14).2.2.1 ∈ wsX7_finishFirst := by decide +kernel
theorem fX7_finishFirst_X7_15 : Cond.fieldLink RX7 44 (TX7 15).1 (TX7 15).2.1 (TX7 15).2.2.1 ∈ wsX7_finishFirst := by decide +kernel
theorem fX7_finishFirst_X7_16 : Cond.fieldLink RX7 47 (TX7 16).1 (TX7 16).2.1 (TX7 16).2.2.1 ∈ wsX7_finishFirst := by decide +kernel
theorem fX7_finishFirst_X7_17 : Cond.fieldLink RX7 50 (TX7 17).1 (TX7 17).2.1 (TX7 17).2.2.1 ∈ wsX7_finishFirst := by decide +kernel
theorem fX7_finishFirst_X7_18 : Cond.fieldLink RX7 53 (TX7 18).1 (TX7 18).2.1 (TX7 18).2.2.1 ∈ wsX7_finishFirst := by decide +kernel
theorem fX7_finishFirst_X7_19 : Cond.fieldLink RX7 120 (TX7 19).1 (TX7 19).2.1 (TX7 19).2.2.1 ∈ wsX7_finishFirst := by decide +kernel
theorem fX7_finishFirst_X7_20 : Cond.fieldLink RX7 117 (TX7 20).1 (TX7 20).2.1 (TX7 20).2.2.1 ∈ wsX7_finishFirst := by decide +kernel
theorem fX7_finishFirst_X7_21 : Cond.fieldLink RX7 56 (TX7 21).1 (TX7 21).2.1 (TX7 21).2.2.1 ∈ wsX7_finishFirst := by decide +kernel
theorem fX7_finishFirst_X7_23 : Cond.fieldLink RX7 62 (TX7 23).1 (TX7 23).2.1 (TX7 23).2.2.1 ∈ wsX7_finishFirst := by decide +kernel
theorem fX7_finishFirst_X7_24 : Cond.fieldLink RX7 65 (TX7 24).1 (TX7 24).2.1 (TX7 24).2.2.1 ∈ wsX7_finishFirst := by decide +kernel
theorem fX7_finishFirst_X7_25 : Cond.fieldLink RX7 68 (TX7 25).1 (TX7 25).2.1 (TX7 25).2.2.1 ∈ wsX7_finishFirst := by decide +kernel
theorem fX7_finishFirst_X7_26 : Cond.fieldLink RX7 71 (TX7 26).1 (TX7 26).2.1 (TX7 26).2.2.1 ∈ wsX7_finishFirst := by decide +kernel
theorem fX7_finishFirst_X7_29 : Cond.fieldLink RX7 123 (TX7 29).1 (TX7 29).2.1 (TX7 29).2.2.1 ∈ wsX7_finishFirst := by decide +kernel
theorem fX7_finishFirst_X7_30 : Cond.fieldLink RX7 77 (TX7 30).1 (TX7 30).2.1 (TX7 30).2.2.1 ∈ wsX7_finishFirst := by decide +kernel
theorem fX7_finishFirst_X7_31 : Cond.fieldLink RX7 80 (TX7 31).1 (TX7 31).2.1 (TX7 31).2.2.1 ∈ wsX7_finishFirst := by decide +kernel
theorem fX7_finishFirst_X7_32 : Cond.fieldLink RX7 83 (TX7 32).1 (TX7 32).2.1 (TX7 32).2.2.1 ∈ wsX7_finishFirst := by decide +kernel
theorem hv_X7_finishFirst : yX7_finishFirst.cls = RX7 ∧ yX7_finishFirst.cls ≠ "java/lang/invoke/MethodHandle" ∧ yX7_finishFirst.cls ≠ "java/lang/invoke/VarHandle" ∧ (parseMethodDescriptor yX7_finishFirst.desc).map (fun d => d.parameters.length) = some 0 := by decide +kernel
def k_X7_finishFirst (S : gs_M) : gs_M :=
  gq_lt ((mg_fetchAt S) (gq_ix 0)) (fun v1 =>
  gq_lt ((mg_kinds S) (gq_ix v1)) (fun v2 =>
  gq_lt (m_isB v2) (fun b3 =>
  gq_lt (m_and (k_X7_in v2 5 10) (k_X7_turned S v1)) (fun b4 =>
  gq_lt (k_X7_does S v1) (fun r5 =>
  gq_lt (r5.2) (fun s6 =>
  gq_lt ((mg_fetchGuess s6) (gq_ix 0)) (fun v7 =>
  gq_lt ((mg_fetchHistory s6) (gq_ix 0)) (fun v8 =>
  gq_lt ((mg_fetchReturned s6) (gq_ix 0)) (fun v9 =>
  gq_lt (ms_keptReturns s6 (upd (mg_keptReturns s6) (gq_ix 0) ((mg_fetchReturns s6) (gq_ix 0)))) (fun s10 =>
  gq_lt (ms_keptReturns s10 (upd (mg_keptReturns s10) (gq_ix 1) ((mg_fetchReturns s10) (gq_ix 1)))) (fun s11 =>
  gq_lt (ms_keptReturns s11 (upd (mg_keptReturns s11) (gq_ix 2) ((mg_fetchReturns s11) (gq_ix 2)))) (fun s12 =>
  gq_lt (ms_keptReturns s12 (upd (mg_keptReturns s12) (gq_ix 3) ((mg_fetchReturns s12) (gq_ix 3)))) (fun s13 =>
  gq_lt (k_X7_dropFirst s13) (fun s14 =>
  if r5.1 = (-1) then
    gq_lt (k_X7_finish s14 2) (fun s15 =>
    s15)
  else
    gq_lt (m_noteD s14 v1) (fun s16 =>
    gq_lt (ms_counts s16 (upd (mg_counts s16) (gq_ix 1) (((mg_counts s16) (gq_ix 1)) + 1))) (fun s17 =>
    gq_lt (ms_counts s17 (upd (mg_counts s17) (gq_ix 13) (((mg_counts s17) (gq_ix 13)) + 1))) (fun s18 =>
    gq_lt (gq_b (k_X7_in v2 5 10)) (fun v19 =>
    gq_lt (ms_counts s18 (upd (mg_counts s18) (gq_ix 4) (((mg_counts s18) (gq_ix 4)) + v19))) (fun s20 =>
    gq_lt (gq_b b3) (fun v21 =>
    gq_lt (ms_counts s20 (upd (mg_counts s20) (gq_ix 5) (((mg_counts s20) (gq_ix 5)) + v21))) (fun s22 =>
    if v2 = 11 then
      gq_lt (k_X7_finish s22 1) (fun s23 =>
      s23)
    else
      gq_lt (if b3 = true then k_X7_learn s22 v1 b4 v8 else s22) (fun s24 =>
      gq_lt (if b4 = true then m_noteT s24 v1 v2 r5.1 else s24) (fun s25 =>
      if r5.1 = v7 then
        s25
      else
        gq_lt (ms_counts s25 (upd (mg_counts s25) (gq_ix 2) (((mg_counts s25) (gq_ix 2)) + 1))) (fun s26 =>
        gq_lt (ms_counts s26 (upd (mg_counts s26) (gq_ix 14) (((mg_counts s26) (gq_ix 14)) + 1))) (fun s27 =>
        gq_lt (gq_b b3) (fun v28 =>
        gq_lt (ms_counts s27 (upd (mg_counts s27) (gq_ix 6) (((mg_counts s27) (gq_ix 6)) + v28))) (fun s29 =>
        gq_lt (if v2 = 9 then 1 else 0) (fun v30 =>
        gq_lt (ms_counts s29 (upd (mg_counts s29) (gq_ix 7) (((mg_counts s29) (gq_ix 7)) + v30))) (fun s31 =>
        gq_lt (ms_counts s31 (upd (mg_counts s31) (gq_ix 3) (((mg_counts s31) (gq_ix 3)) + (mg_fetched s31)))) (fun s32 =>
        gq_lt (ms_fetched s32 0) (fun s33 =>
        gq_lt (ms_place s33 r5.1) (fun s34 =>
        gq_lt (ms_history s34 v8) (fun s35 =>
        gq_lt (ms_returned s35 v9) (fun s36 =>
        gq_lt (ms_returns s36 (upd (mg_returns s36) (gq_ix 0) ((mg_keptReturns s36) (gq_ix 0)))) (fun s37 =>
        gq_lt (ms_returns s37 (upd (mg_returns s37) (gq_ix 1) ((mg_keptReturns s37) (gq_ix 1)))) (fun s38 =>
        gq_lt (ms_returns s38 (upd (mg_returns s38) (gq_ix 2) ((mg_keptReturns s38) (gq_ix 2)))) (fun s39 =>
        gq_lt (ms_returns s39 (upd (mg_returns s39) (gq_ix 3) ((mg_keptReturns s39) (gq_ix 3)))) (fun s40 =>
        if b3 = true then
          gq_lt (k_X7_bit s40 b4) (fun s41 =>
          s41)
        else
          if v2 = 8 then
            gq_lt (k_X7_push s40 (v1 + 1)) (fun s42 =>
            s42)
          else
            if v2 = 9 then
              if mg_returned s40 ≤ 0 then
                s40
              else
                gq_lt (ms_returned s40 ((mg_returned s40) - 1)) (fun s43 =>
                s43)
            else
              s40))))))))))))))))))))))))))))))))))))))
set_option maxHeartbeats 4000000 in
set_option maxRecDepth 100000 in
theorem c_X7_finishFirst (l : Launch) (D : va_G) (cA : ClassId) (a : Nat → Nat) (S : gs_M)  (hf : vp_in (mg_fetched S) 9) (hn1 : 1 ≤ gq_ix (mg_fetched S)) (hfa : ∀ j, j < 8 → vp_in (mg_fetchAt S j) 60) (hfh : ∀ j, j < 8 → vp_in (mg_fetchHistory S j) 16) (hfr : ∀ j, j < 8 → vp_in (mg_fetchReturned S j) 5) (has : ∀ j, j < 60 → vp_in (mg_as S j) 8) (hbs : ∀ j, j < 60 → vp_in (mg_bs S j) 8) (hd : vp_in (mg_deep S) 17) (hn : ¬ mg_acts S = 0) (hc : ¬ mg_counts S (gq_ix 1) < 0) : gq_C l yX7_finishFirst wsX7_finishFirst ({ frames := 2, cells := 0, slots := 0, locals := 49 } : Room) D cA [.ref (a 0)] (gw_M cA a S) (none) (gw_M cA a (k_X7_finishFirst S)) := by
  refine gq_openf (own := RX7) (lv := [(0, .ref (a 0))]) (fun r : gs_M => (none, gw_M cA a r)) (k_X7_finishFirst S) (by decide) rfl rfl (Nat.le_of_ble_eq_true rfl) rfl rfl rfl (fun p e s m args below meth c A X => ?_)
  unfold k_X7_finishFirst
  refine gq_aload_n X dX7_finishFirst_0 0 rfl ?_
  refine gq_get (C := RX7) (T := TX7) (N := 34) X iX7_finishFirst_X7 0 gl_M_c0 rfl 21 (by decide) fX7_finishFirst_X7_21 rfl dX7_finishFirst_1 ?_
  refine gq_iconst (v := 0) X dX7_finishFirst_4 gq_i0 ?_
  refine gq_ald X 15 gl_M_c15 (by unfold vp_in; decide) dX7_finishFirst_5 ?_
  refine gq_letr (fun v1 ev1 => ?_)
  refine gq_eqst (st' := .int v1 :: _) (by rw [ev1]) ?_
  refine gq_istore_n (lv' := [(1, .int v1), (0, .ref (a 0))]) X dX7_finishFirst_6 (by decide) rfl ?_
  refine gq_aload_n X dX7_finishFirst_7 1 rfl ?_
  refine gq_get (C := RX7) (T := TX7) (N := 34) X iX7_finishFirst_X7 0 gl_M_c0 rfl 1 (by decide) fX7_finishFirst_X7_1 rfl dX7_finishFirst_8 ?_
  refine gq_iload_n X dX7_finishFirst_11 0 rfl ?_
  refine gq_ald X 1 gl_M_c1 (by rw [ev1]; exact hfa 0 (by decide)) dX7_finishFirst_12 ?_
  refine gq_letr (fun v2 ev2 => ?_)
  refine gq_eqst (st' := .int v2 :: _) (by rw [ev2]) ?_
  refine gq_istore_n (lv' := [(2, .int v2), (1, .int v1), (0, .ref (a 0))]) X dX7_finishFirst_13 (by decide) rfl ?_
  refine gq_letr (fun b3 eb3 => ?_)
  refine gq_join (ws' := gw_M cA a S) (lv' := [(2, .int v2), (1, .int v1), (0, .ref (a 0))]) (pc' := 30) (st' := [.int (gq_b b3)]) ?_ (fun J30 => ?_)
  · refine gq_istore_n (lv' := [(3, .int (gq_b b3)), (2, .int v2), (1, .int v1), (0, .ref (a 0))]) X dX7_finishFirst_30 (by decide) rfl ?_
    refine gq_letr (fun b4 eb4 => ?_)
    refine gq_join (ws' := gw_M cA a S) (lv' := [(3, .int (gq_b b3)), (2, .int v2), (1, .int v1), (0, .ref (a 0))]) (pc' := 54) (st' := [.int (gq_b b4)]) ?_ (fun J54 => ?_)
    · refine gq_istore (lv' := [(4, .int (gq_b b4)), (3, .int (gq_b b3)), (2, .int v2), (1, .int v1), (0, .ref (a 0))]) X dX7_finishFirst_54 (by decide) rfl ?_
      refine gq_aload_n X dX7_finishFirst_56 4 rfl ?_
      refine gq_iload_n X dX7_finishFirst_57 3 rfl ?_
      refine gq_letr (fun r5 er5 => ?_)
      refine gq_letr (fun s6 es6 => ?_)
      refine gq_callVr (ws' := gw_M cA a s6) X (gq_Ceq (res2 := some (Value.int r5.1)) (w2 := gw_M cA a r5.2) (c_X7_does l D cA a S v1 (by rw [ev1]; exact hfa 0 (by decide)) has hbs hd hn) (by rw [er5]) (by rw [er5])) rfl ⟨rfl, rfl⟩ ⟨Nat.le_of_ble_eq_true rfl, Nat.le_of_ble_eq_true rfl⟩ gX7_finishFirst_X7_does hv_X7_does 0 gl_M_c0 rfl [0, 1, 2, 3, 4, 5, 6, 7, 8, 9, 10, 11, 12, 13, 14, 15, 16, 17, 18, 19, 20, 21, 22, 23] gl_M_self_at gl_M_self_nd gl_M_fst (by rw [es6]; exact gl_M_self_set) rfl rfl (Nat.le_of_ble_eq_true rfl) ⟨Nat.zero_le _, Nat.zero_le _⟩ dX7_finishFirst_58 ?_
      have ts6_mg_fetched : mg_fetched s6 = mg_fetched S := by rw [es6, er5]; exact ((mk_does _ _).2.2.2.2.2.2.2.2.2.2.2.2.2.2.2.2.1).trans rfl
      have ts6_mg_counts : mg_counts s6 = mg_counts S := by rw [es6, er5]; exact ((mk_does _ _).2.2.2.2.2.2.2.2.2.2.2.2.2.2.2.2.2.2.2.2.2.2.2.2.2.2.1).trans rfl
      have ts6_mg_fetchHistory : mg_fetchHistory s6 = mg_fetchHistory S := by rw [es6, er5]; exact ((mk_does _ _).2.2.2.2.2.2.2.2.2.2.2.2.2.2.2.2.2.2.2.2.1).trans rfl
      have ts6_mg_fetchReturned : mg_fetchReturned s6 = mg_fetchReturned S := by rw [es6, er5]; exact ((mk_does _ _).2.2.2.2.2.2.2.2.2.2.2.2.2.2.2.2.2.2.2.2.2.1).trans rfl
      have ts6_mg_returned : mg_returned s6 = mg_returned S := by rw [es6, er5]; exact ((mk_does _ _).2.2.2.2.2.2.2.2.2.2.2.2.2.2.2.1).trans rfl
      refine gq_istore (lv' := [(5, .int r5.1), (4, .int (gq_b b4)), (3, .int (gq_b b3)), (2, .int v2), (1, .int v1), (0, .ref (a 0))]) X dX7_finishFirst_61 (by decide) rfl ?_
      refine gq_aload_n X dX7_finishFirst_63 5 rfl ?_
      refine gq_get (C := RX7) (T := TX7) (N := 34) X iX7_finishFirst_X7 0 gl_M_c0 rfl 23 (by decide) fX7_finishFirst_X7_23 rfl dX7_finishFirst_64 ?_
      refine gq_iconst (v := 0) X dX7_finishFirst_67 gq_i0 ?_
      refine gq_ald X 17 gl_M_c17 (by unfold vp_in; decide) dX7_finishFirst_68 ?_
      refine gq_letr (fun v7 ev7 => ?_)
      refine gq_eqst (st' := .int v7 :: _) (by rw [ev7]) ?_
      refine gq_istore (lv' := [(6, .int v7), (5, .int r5.1), (4, .int (gq_b b4)), (3, .int (gq_b b3)), (2, .int v2), (1, .int v1), (0, .ref (a 0))]) X dX7_finishFirst_69 (by decide) rfl ?_
      refine gq_aload_n X dX7_finishFirst_71 6 rfl ?_
      refine gq_get (C := RX7) (T := TX7) (N := 34) X iX7_finishFirst_X7 0 gl_M_c0 rfl 24 (by decide) fX7_finishFirst_X7_24 rfl dX7_finishFirst_72 ?_
      refine gq_iconst (v := 0) X dX7_finishFirst_75 gq_i0 ?_
      refine gq_ald X 18 gl_M_c18 (by unfold vp_in; decide) dX7_finishFirst_76 ?_
      refine gq_letr (fun v8 ev8 => ?_)
      refine gq_eqst (st' := .int v8 :: _) (by rw [ev8]) ?_
      refine gq_istore (lv' := [(7, .int v8), (6, .int v7), (5, .int r5.1), (4, .int (gq_b b4)), (3, .int (gq_b b3)), (2, .int v2), (1, .int v1), (0, .ref (a 0))]) X dX7_finishFirst_77 (by decide) rfl ?_
      refine gq_aload_n X dX7_finishFirst_79 7 rfl ?_
      refine gq_get (C := RX7) (T := TX7) (N := 34) X iX7_finishFirst_X7 0 gl_M_c0 rfl 25 (by decide) fX7_finishFirst_X7_25 rfl dX7_finishFirst_80 ?_
      refine gq_iconst (v := 0) X dX7_finishFirst_83 gq_i0 ?_
      refine gq_ald X 19 gl_M_c19 (by unfold vp_in; decide) dX7_finishFirst_84 ?_
      refine gq_letr (fun v9 ev9 => ?_)
      refine gq_eqst (st' := .int v9 :: _) (by rw [ev9]) ?_
      refine gq_istore (lv' := [(8, .int v9), (7, .int v8), (6, .int v7), (5, .int r5.1), (4, .int (gq_b b4)), (3, .int (gq_b b3)), (2, .int v2), (1, .int v1), (0, .ref (a 0))]) X dX7_finishFirst_85 (by decide) rfl ?_
      refine gq_iconst (v := 0) X dX7_finishFirst_87 gq_i0 ?_
      refine gq_istore (lv' := [(9, .int 0), (8, .int v9), (7, .int v8), (6, .int v7), (5, .int r5.1), (4, .int (gq_b b4)), (3, .int (gq_b b3)), (2, .int v2), (1, .int v1), (0, .ref (a 0))]) X dX7_finishFirst_88 (by decide) rfl ?_
      refine gq_iload X dX7_finishFirst_90 0 rfl ?_
      refine gq_iconst (v := 4) X dX7_finishFirst_92 gq_i4 ?_
      refine gq_icmp_ge (tgt := 116) X dX7_finishFirst_93 (by decide) (fun h => absurd h (by decide)) (fun _ => ?_)
      refine gq_aload_n X dX7_finishFirst_96 9 rfl ?_
      refine gq_get (C := RX7) (T := TX7) (N := 34) X iX7_finishFirst_X7 0 gl_M_c0 rfl 32 (by decide) fX7_finishFirst_X7_32 rfl dX7_finishFirst_97 ?_
      refine gq_iload X dX7_finishFirst_100 0 rfl ?_
      refine gq_aload_n X dX7_finishFirst_102 9 rfl ?_
      refine gq_get (C := RX7) (T := TX7) (N := 34) X iX7_finishFirst_X7 0 gl_M_c0 rfl 26 (by decide) fX7_finishFirst_X7_26 rfl dX7_finishFirst_103 ?_
      refine gq_iload X dX7_finishFirst_106 0 rfl ?_
      refine gq_ald X 20 gl_M_c20 (by unfold vp_in; decide) dX7_finishFirst_108 ?_
      refine gq_letr (fun s10 es10 => ?_)
      refine gq_ast (ws' := gw_M cA a s10) X 23 gl_M_c23 (by unfold vp_in; decide) (by rw [es10]; exact gl_M_a23) dX7_finishFirst_109 ?_
      have ts10_mg_fetched : mg_fetched s10 = mg_fetched S := by rw [es10]; exact (mfr_keptReturns _ _).2.2.2.2.2.2.2.2.2.2.2.2.2.2.2.2.2.2.2.2.1.trans ts6_mg_fetched
      have ts10_mg_counts : mg_counts s10 = mg_counts S := by rw [es10]; exact (mfr_keptReturns _ _).2.2.2.2.2.2.2.2.2.2.2.2.2.2.2.2.2.2.2.2.2.2.2.2.2.2.2.2.2.2.1.trans ts6_mg_counts
      have ts10_mg_fetchHistory : mg_fetchHistory s10 = mg_fetchHistory S := by rw [es10]; exact (mfr_keptReturns _ _).2.2.2.2.2.2.2.2.2.2.2.2.2.2.2.2.2.2.2.2.2.2.2.2.1.trans ts6_mg_fetchHistory
      have ts10_mg_fetchReturned : mg_fetchReturned s10 = mg_fetchReturned S := by rw [es10]; exact (mfr_keptReturns _ _).2.2.2.2.2.2.2.2.2.2.2.2.2.2.2.2.2.2.2.2.2.2.2.2.2.1.trans ts6_mg_fetchReturned
      have ts10_mg_returned : mg_returned s10 = mg_returned S := by rw [es10]; exact (mfr_keptReturns _ _).2.2.2.2.2.2.2.2.2.2.2.2.2.2.2.2.2.2.2.1.trans ts6_mg_returned
      refine gq_iinc (lv' := [(9, .int 1), (8, .int v9), (7, .int v8), (6, .int v7), (5, .int r5.1), (4, .int (gq_b b4)), (3, .int (gq_b b3)), (2, .int v2), (1, .int v1), (0, .ref (a 0))]) X dX7_finishFirst_110 0 rfl (by decide) (by decide) rfl ?_
      refine gq_goto (tgt := 90) X dX7_finishFirst_113 (by decide) ?_
      refine gq_iload X dX7_finishFirst_90 0 rfl ?_
      refine gq_iconst (v := 4) X dX7_finishFirst_92 gq_i4 ?_
      refine gq_icmp_ge (tgt := 116) X dX7_finishFirst_93 (by decide) (fun h => absurd h (by decide)) (fun _ => ?_)
      refine gq_aload_n X dX7_finishFirst_96 9 rfl ?_
      refine gq_get (C := RX7) (T := TX7) (N := 34) X iX7_finishFirst_X7 0 gl_M_c0 rfl 32 (by decide) fX7_finishFirst_X7_32 rfl dX7_finishFirst_97 ?_
      refine gq_iload X dX7_finishFirst_100 0 rfl ?_
      refine gq_aload_n X dX7_finishFirst_102 9 rfl ?_
      refine gq_get (C := RX7) (T := TX7) (N := 34) X iX7_finishFirst_X7 0 gl_M_c0 rfl 26 (by decide) fX7_finishFirst_X7_26 rfl dX7_finishFirst_103 ?_
      refine gq_iload X dX7_finishFirst_106 0 rfl ?_
      refine gq_ald X 20 gl_M_c20 (by unfold vp_in; decide) dX7_finishFirst_108 ?_
      refine gq_letr (fun s11 es11 => ?_)
      refine gq_ast (ws' := gw_M cA a s11) X 23 gl_M_c23 (by unfold vp_in; decide) (by rw [es11]; exact gl_M_a23) dX7_finishFirst_109 ?_
      have ts11_mg_fetched : mg_fetched s11 = mg_fetched S := by rw [es11]; exact (mfr_keptReturns _ _).2.2.2.2.2.2.2.2.2.2.2.2.2.2.2.2.2.2.2.2.1.trans ts10_mg_fetched
      have ts11_mg_counts : mg_counts s11 = mg_counts S := by rw [es11]; exact (mfr_keptReturns _ _).2.2.2.2.2.2.2.2.2.2.2.2.2.2.2.2.2.2.2.2.2.2.2.2.2.2.2.2.2.2.1.trans ts10_mg_counts
      have ts11_mg_fetchHistory : mg_fetchHistory s11 = mg_fetchHistory S := by rw [es11]; exact (mfr_keptReturns _ _).2.2.2.2.2.2.2.2.2.2.2.2.2.2.2.2.2.2.2.2.2.2.2.2.1.trans ts10_mg_fetchHistory
      have ts11_mg_fetchReturned : mg_fetchReturned s11 = mg_fetchReturned S := by rw [es11]; exact (mfr_keptReturns _ _).2.2.2.2.2.2.2.2.2.2.2.2.2.2.2.2.2.2.2.2.2.2.2.2.2.1.trans ts10_mg_fetchReturned
      have ts11_mg_returned : mg_returned s11 = mg_returned S := by rw [es11]; exact (mfr_keptReturns _ _).2.2.2.2.2.2.2.2.2.2.2.2.2.2.2.2.2.2.2.1.trans ts10_mg_returned
      refine gq_iinc (lv' := [(9, .int 2), (8, .int v9), (7, .int v8), (6, .int v7), (5, .int r5.1), (4, .int (gq_b b4)), (3, .int (gq_b b3)), (2, .int v2), (1, .int v1), (0, .ref (a 0))]) X dX7_finishFirst_110 0 rfl (by decide) (by decide) rfl ?_
      refine gq_goto (tgt := 90) X dX7_finishFirst_113 (by decide) ?_
      refine gq_iload X dX7_finishFirst_90 0 rfl ?_
      refine gq_iconst (v := 4) X dX7_finishFirst_92 gq_i4 ?_
      refine gq_icmp_ge (tgt := 116) X dX7_finishFirst_93 (by decide) (fun h => absurd h (by decide)) (fun _ => ?_)
      refine gq_aload_n X dX7_finishFirst_96 9 rfl ?_
      refine gq_get (C := RX7) (T := TX7) (N := 34) X iX7_finishFirst_X7 0 gl_M_c0 rfl 32 (by decide) fX7_finishFirst_X7_32 rfl dX7_finishFirst_97 ?_
      refine gq_iload X dX7_finishFirst_100 0 rfl ?_
      refine gq_aload_n X dX7_finishFirst_102 9 rfl ?_
      refine gq_get (C := RX7) (T := TX7) (N := 34) X iX7_finishFirst_X7 0 gl_M_c0 rfl 26 (by decide) fX7_finishFirst_X7_26 rfl dX7_finishFirst_103 ?_
      refine gq_iload X dX7_finishFirst_106 0 rfl ?_
      refine gq_ald X 20 gl_M_c20 (by unfold vp_in; decide) dX7_finishFirst_108 ?_
      refine gq_letr (fun s12 es12 => ?_)
      refine gq_ast (ws' := gw_M cA a s12) X 23 gl_M_c23 (by unfold vp_in; decide) (by rw [es12]; exact gl_M_a23) dX7_finishFirst_109 ?_
      have ts12_mg_fetched : mg_fetched s12 = mg_fetched S := by rw [es12]; exact (mfr_keptReturns _ _).2.2.2.2.2.2.2.2.2.2.2.2.2.2.2.2.2.2.2.2.1.trans ts11_mg_fetched
      have ts12_mg_counts : mg_counts s12 = mg_counts S := by rw [es12]; exact (mfr_keptReturns _ _).2.2.2.2.2.2.2.2.2.2.2.2.2.2.2.2.2.2.2.2.2.2.2.2.2.2.2.2.2.2.1.trans ts11_mg_counts
      have ts12_mg_fetchHistory : mg_fetchHistory s12 = mg_fetchHistory S := by rw [es12]; exact (mfr_keptReturns _ _).2.2.2.2.2.2.2.2.2.2.2.2.2.2.2.2.2.2.2.2.2.2.2.2.1.trans ts11_mg_fetchHistory
      have ts12_mg_fetchReturned : mg_fetchReturned s12 = mg_fetchReturned S := by rw [es12]; exact (mfr_keptReturns _ _).2.2.2.2.2.2.2.2.2.2.2.2.2.2.2.2.2.2.2.2.2.2.2.2.2.1.trans ts11_mg_fetchReturned
      have ts12_mg_returned : mg_returned s12 = mg_returned S := by rw [es12]; exact (mfr_keptReturns _ _).2.2.2.2.2.2.2.2.2.2.2.2.2.2.2.2.2.2.2.1.trans ts11_mg_returned
      refine gq_iinc (lv' := [(9, .int 3), (8, .int v9), (7, .int v8), (6, .int v7), (5, .int r5.1), (4, .int (gq_b b4)), (3, .int (gq_b b3)), (2, .int v2), (1, .int v1), (0, .ref (a 0))]) X dX7_finishFirst_110 0 rfl (by decide) (by decide) rfl ?_
      refine gq_goto (tgt := 90) X dX7_finishFirst_113 (by decide) ?_
      refine gq_iload X dX7_finishFirst_90 0 rfl ?_
      refine gq_iconst (v := 4) X dX7_finishFirst_92 gq_i4 ?_
      refine gq_icmp_ge (tgt := 116) X dX7_finishFirst_93 (by decide) (fun h => absurd h (by decide)) (fun _ => ?_)
      refine gq_aload_n X dX7_finishFirst_96 9 rfl ?_
      refine gq_get (C := RX7) (T := TX7) (N := 34) X iX7_finishFirst_X7 0 gl_M_c0 rfl 32 (by decide) fX7_finishFirst_X7_32 rfl dX7_finishFirst_97 ?_
      refine gq_iload X dX7_finishFirst_100 0 rfl ?_
      refine gq_aload_n X dX7_finishFirst_102 9 rfl ?_
      refine gq_get (C := RX7) (T := TX7) (N := 34) X iX7_finishFirst_X7 0 gl_M_c0 rfl 26 (by decide) fX7_finishFirst_X7_26 rfl dX7_finishFirst_103 ?_
      refine gq_iload X dX7_finishFirst_106 0 rfl ?_
      refine gq_ald X 20 gl_M_c20 (by unfold vp_in; decide) dX7_finishFirst_108 ?_
      refine gq_letr (fun s13 es13 => ?_)
      refine gq_ast (ws' := gw_M cA a s13) X 23 gl_M_c23 (by unfold vp_in; decide) (by rw [es13]; exact gl_M_a23) dX7_finishFirst_109 ?_
      have ts13_mg_fetched : mg_fetched s13 = mg_fetched S := by rw [es13]; exact (mfr_keptReturns _ _).2.2.2.2.2.2.2.2.2.2.2.2.2.2.2.2.2.2.2.2.1.trans ts12_mg_fetched
      have ts13_mg_counts : mg_counts s13 = mg_counts S := by rw [es13]; exact (mfr_keptReturns _ _).2.2.2.2.2.2.2.2.2.2.2.2.2.2.2.2.2.2.2.2.2.2.2.2.2.2.2.2.2.2.1.trans ts12_mg_counts
      have ts13_mg_fetchHistory : mg_fetchHistory s13 = mg_fetchHistory S := by rw [es13]; exact (mfr_keptReturns _ _).2.2.2.2.2.2.2.2.2.2.2.2.2.2.2.2.2.2.2.2.2.2.2.2.1.trans ts12_mg_fetchHistory
      have ts13_mg_fetchReturned : mg_fetchReturned s13 = mg_fetchReturned S := by rw [es13]; exact (mfr_keptReturns _ _).2.2.2.2.2.2.2.2.2.2.2.2.2.2.2.2.2.2.2.2.2.2.2.2.2.1.trans ts12_mg_fetchReturned
      have ts13_mg_returned : mg_returned s13 = mg_returned S := by rw [es13]; exact (mfr_keptReturns _ _).2.2.2.2.2.2.2.2.2.2.2.2.2.2.2.2.2.2.2.1.trans ts12_mg_returned
      refine gq_iinc (lv' := [(9, .int 4), (8, .int v9), (7, .int v8), (6, .int v7), (5, .int r5.1), (4, .int (gq_b b4)), (3, .int (gq_b b3)), (2, .int v2), (1, .int v1), (0, .ref (a 0))]) X dX7_finishFirst_110 0 rfl (by decide) (by decide) rfl ?_
      refine gq_goto (tgt := 90) X dX7_finishFirst_113 (by decide) ?_
      refine gq_iload X dX7_finishFirst_90 0 rfl ?_
      refine gq_iconst (v := 4) X dX7_finishFirst_92 gq_i4 ?_
      refine gq_icmp_ge (tgt := 116) X dX7_finishFirst_93 (by decide) (fun _ => ?_) (fun h => absurd (by decide) h)
      refine gq_aload_n X dX7_finishFirst_116 9 rfl ?_
      refine gq_letr (fun s14 es14 => ?_)
      refine gq_callVv (ws' := gw_M cA a s14) X (c_X7_dropFirst l D cA a s13 (by rw [ts13_mg_fetched]; exact hf) (by rw [ts13_mg_fetched]; exact hn1)) rfl ⟨rfl, rfl⟩ ⟨Nat.le_of_ble_eq_true rfl, Nat.le_of_ble_eq_true rfl⟩ gX7_finishFirst_X7_dropFirst hv_X7_dropFirst 0 gl_M_c0 rfl [0, 1, 2, 3, 4, 5, 6, 7, 8, 9, 10, 11, 12, 13, 14, 15, 16, 17, 18, 19, 20, 21, 22, 23] gl_M_self_at gl_M_self_nd gl_M_fst (by rw [es14]; exact gl_M_self_set) rfl rfl (Nat.le_of_ble_eq_true rfl) ⟨Nat.zero_le _, Nat.zero_le _⟩ dX7_finishFirst_117 ?_
      have ts14_mg_counts : mg_counts s14 = mg_counts S := by rw [es14]; exact ((mk_drop _).2.2.2.2.2.2.2.2.2.2.2.2.2.2.2.2.2.2.2.2.2.2.2.1).trans ts13_mg_counts
      have ts14_mg_returned : mg_returned s14 = mg_returned S := by rw [es14]; exact ((mk_drop _).2.2.2.2.2.2.2.2.2.2.2.2.2.2.2.2.2.2.2.1).trans ts13_mg_returned
      refine gq_iload X dX7_finishFirst_120 4 rfl ?_
      refine gq_iconst (v := (-1)) X dX7_finishFirst_122 gq_im1 ?_
      refine gq_ficmp_ne (tgt := 132) X dX7_finishFirst_123 (by decide) (fun h123 => ?_) (fun h123 => ?_)
      · refine gq_aload_n X dX7_finishFirst_126 9 rfl ?_
        refine gq_iconst (v := 2) X dX7_finishFirst_127 gq_i2 ?_
        refine gq_letr (fun s15 es15 => ?_)
        refine gq_callVv (ws' := gw_M cA a s15) X (c_X7_finish l D cA a s14 2) rfl ⟨rfl, rfl⟩ ⟨Nat.le_of_ble_eq_true rfl, Nat.le_of_ble_eq_true rfl⟩ gX7_finishFirst_X7_finish hv_X7_finish 0 gl_M_c0 rfl [0, 1, 2, 3, 4, 5, 6, 7, 8, 9, 10, 11, 12, 13, 14, 15, 16, 17, 18, 19, 20, 21, 22, 23] gl_M_self_at gl_M_self_nd gl_M_fst (by rw [es15]; exact gl_M_self_set) rfl rfl (Nat.le_of_ble_eq_true rfl) ⟨Nat.zero_le _, Nat.zero_le _⟩ dX7_finishFirst_128 ?_
        exact gq_vretf X dX7_finishFirst_131 rfl rfl
      · refine gq_letr (fun s16 es16 => ?_)
        refine gq_join (ws' := gw_M cA a s16) (lv' := [(9, .int 4), (8, .int v9), (7, .int v8), (6, .int v7), (5, .int r5.1), (4, .int (gq_b b4)), (3, .int (gq_b b3)), (2, .int v2), (1, .int v1), (0, .ref (a 0))]) (pc' := 156) (st' := []) ?_ (fun J156 => ?_)
        · refine gq_aload_n X dX7_finishFirst_156 9 rfl ?_
          refine gq_get (C := RX7) (T := TX7) (N := 34) X iX7_finishFirst_X7 0 gl_M_c0 rfl 30 (by decide) fX7_finishFirst_X7_30 rfl dX7_finishFirst_157 ?_
          refine gq_iconst (v := 1) X dX7_finishFirst_160 gq_i1 ?_
          refine gq_dup2 X dX7_finishFirst_161 rfl rfl ?_
          refine gq_ald X 21 gl_M_c21 (by unfold vp_in; decide) dX7_finishFirst_162 ?_
          refine gq_iconst (v := 1) X dX7_finishFirst_163 gq_i1 ?_
          refine gq_iadd X dX7_finishFirst_164 ?_
          refine gq_letr (fun s17 es17 => ?_)
          refine gq_ast (ws' := gw_M cA a s17) X 21 gl_M_c21 (by unfold vp_in; decide) (by rw [es17]; exact gl_M_a21) dX7_finishFirst_165 ?_
          refine gq_aload_n X dX7_finishFirst_166 9 rfl ?_
          refine gq_get (C := RX7) (T := TX7) (N := 34) X iX7_finishFirst_X7 0 gl_M_c0 rfl 30 (by decide) fX7_finishFirst_X7_30 rfl dX7_finishFirst_167 ?_
          refine gq_bipush (v := 13) X dX7_finishFirst_170 (by decide) ?_
          refine gq_dup2 X dX7_finishFirst_172 rfl rfl ?_
          refine gq_ald X 21 gl_M_c21 (by unfold vp_in; decide) dX7_finishFirst_173 ?_
          refine gq_iconst (v := 1) X dX7_finishFirst_174 gq_i1 ?_
          refine gq_iadd X dX7_finishFirst_175 ?_
          refine gq_letr (fun s18 es18 => ?_)
          refine gq_ast (ws' := gw_M cA a s18) X 21 gl_M_c21 (by unfold vp_in; decide) (by rw [es18]; exact gl_M_a21) dX7_finishFirst_176 ?_
          refine gq_aload_n X dX7_finishFirst_177 9 rfl ?_
          refine gq_get (C := RX7) (T := TX7) (N := 34) X iX7_finishFirst_X7 0 gl_M_c0 rfl 30 (by decide) fX7_finishFirst_X7_30 rfl dX7_finishFirst_178 ?_
          refine gq_iconst (v := 4) X dX7_finishFirst_181 gq_i4 ?_
          refine gq_dup2 X dX7_finishFirst_182 rfl rfl ?_
          refine gq_ald X 21 gl_M_c21 (by unfold vp_in; decide) dX7_finishFirst_183 ?_
          refine gq_letr (fun v19 ev19 => ?_)
          refine gq_join (ws' := gw_M cA a s18) (lv' := [(9, .int 4), (8, .int v9), (7, .int v8), (6, .int v7), (5, .int r5.1), (4, .int (gq_b b4)), (3, .int (gq_b b3)), (2, .int v2), (1, .int v1), (0, .ref (a 0))]) (pc' := 199) (st' := [.int v19, .int ((mg_counts s18) (gq_ix 4)), .int 4, .ref (a 21)]) ?_ (fun J199 => ?_)
          · refine gq_iadd X dX7_finishFirst_199 ?_
            refine gq_letr (fun s20 es20 => ?_)
            refine gq_ast (ws' := gw_M cA a s20) X 21 gl_M_c21 (by unfold vp_in; decide) (by rw [es20]; exact gl_M_a21) dX7_finishFirst_200 ?_
            refine gq_aload_n X dX7_finishFirst_201 9 rfl ?_
            refine gq_get (C := RX7) (T := TX7) (N := 34) X iX7_finishFirst_X7 0 gl_M_c0 rfl 30 (by decide) fX7_finishFirst_X7_30 rfl dX7_finishFirst_202 ?_
            refine gq_iconst (v := 5) X dX7_finishFirst_205 gq_i5 ?_
            refine gq_dup2 X dX7_finishFirst_206 rfl rfl ?_
            refine gq_ald X 21 gl_M_c21 (by unfold vp_in; decide) dX7_finishFirst_207 ?_
            refine gq_letr (fun v21 ev21 => ?_)
            refine gq_join (ws' := gw_M cA a s20) (lv' := [(9, .int 4), (8, .int v9), (7, .int v8), (6, .int v7), (5, .int r5.1), (4, .int (gq_b b4)), (3, .int (gq_b b3)), (2, .int v2), (1, .int v1), (0, .ref (a 0))]) (pc' := 217) (st' := [.int v21, .int ((mg_counts s20) (gq_ix 5)), .int 5, .ref (a 21)]) ?_ (fun J217 => ?_)
            · refine gq_iadd X dX7_finishFirst_217 ?_
              refine gq_letr (fun s22 es22 => ?_)
              refine gq_ast (ws' := gw_M cA a s22) X 21 gl_M_c21 (by unfold vp_in; decide) (by rw [es22]; exact gl_M_a21) dX7_finishFirst_218 ?_
              refine gq_iload_n X dX7_finishFirst_219 7 rfl ?_
              refine gq_bipush (v := 11) X dX7_finishFirst_220 (by decide) ?_
              refine gq_ficmp_ne (tgt := 231) X dX7_finishFirst_222 (by decide) (fun h222 => ?_) (fun h222 => ?_)
              · refine gq_aload_n X dX7_finishFirst_225 9 rfl ?_
                refine gq_iconst (v := 1) X dX7_finishFirst_226 gq_i1 ?_
                refine gq_letr (fun s23 es23 => ?_)
                refine gq_callVv (ws' := gw_M cA a s23) X (c_X7_finish l D cA a s22 1) rfl ⟨rfl, rfl⟩ ⟨Nat.le_of_ble_eq_true rfl, Nat.le_of_ble_eq_true rfl⟩ gX7_finishFirst_X7_finish hv_X7_finish 0 gl_M_c0 rfl [0, 1, 2, 3, 4, 5, 6, 7, 8, 9, 10, 11, 12, 13, 14, 15, 16, 17, 18, 19, 20, 21, 22, 23] gl_M_self_at gl_M_self_nd gl_M_fst (by rw [es23]; exact gl_M_self_set) rfl rfl (Nat.le_of_ble_eq_true rfl) ⟨Nat.zero_le _, Nat.zero_le _⟩ dX7_finishFirst_227 ?_
                exact gq_vretf X dX7_finishFirst_230 rfl rfl
              · refine gq_letr (fun s24 es24 => ?_)
                refine gq_join (ws' := gw_M cA a s24) (lv' := [(9, .int 4), (8, .int v9), (7, .int v8), (6, .int v7), (5, .int r5.1), (4, .int (gq_b b4)), (3, .int (gq_b b3)), (2, .int v2), (1, .int v1), (0, .ref (a 0))]) (pc' := 244) (st' := []) ?_ (fun J244 => ?_)
                · refine gq_letr (fun s25 es25 => ?_)
                  refine gq_join (ws' := gw_M cA a s25) (lv' := [(9, .int 4), (8, .int v9), (7, .int v8), (6, .int v7), (5, .int r5.1), (4, .int (gq_b b4)), (3, .int (gq_b b3)), (2, .int v2), (1, .int v1), (0, .ref (a 0))]) (pc' := 280) (st' := []) ?_ (fun J280 => ?_)
                  · refine gq_iload X dX7_finishFirst_280 4 rfl ?_
                    refine gq_iload X dX7_finishFirst_282 3 rfl ?_
                    refine gq_ficmp_eq (tgt := 465) X dX7_finishFirst_284 (by decide) (fun h284 => ?_) (fun h284 => ?_)
                    · exact gq_vretf X dX7_finishFirst_465 rfl rfl
                    · refine gq_aload_n X dX7_finishFirst_287 9 rfl ?_
                      refine gq_get (C := RX7) (T := TX7) (N := 34) X iX7_finishFirst_X7 0 gl_M_c0 rfl 30 (by decide) fX7_finishFirst_X7_30 rfl dX7_finishFirst_288 ?_
                      refine gq_iconst (v := 2) X dX7_finishFirst_291 gq_i2 ?_
                      refine gq_dup2 X dX7_finishFirst_292 rfl rfl ?_
                      refine gq_ald X 21 gl_M_c21 (by unfold vp_in; decide) dX7_finishFirst_293 ?_
                      refine gq_iconst (v := 1) X dX7_finishFirst_294 gq_i1 ?_
                      refine gq_iadd X dX7_finishFirst_295 ?_
                      refine gq_letr (fun s26 es26 => ?_)
                      refine gq_ast (ws' := gw_M cA a s26) X 21 gl_M_c21 (by unfold vp_in; decide) (by rw [es26]; exact gl_M_a21) dX7_finishFirst_296 ?_
                      refine gq_aload_n X dX7_finishFirst_297 9 rfl ?_
                      refine gq_get (C := RX7) (T := TX7) (N := 34) X iX7_finishFirst_X7 0 gl_M_c0 rfl 30 (by decide) fX7_finishFirst_X7_30 rfl dX7_finishFirst_298 ?_
                      refine gq_bipush (v := 14) X dX7_finishFirst_301 (by decide) ?_
                      refine gq_dup2 X dX7_finishFirst_303 rfl rfl ?_
                      refine gq_ald X 21 gl_M_c21 (by unfold vp_in; decide) dX7_finishFirst_304 ?_
                      refine gq_iconst (v := 1) X dX7_finishFirst_305 gq_i1 ?_
                      refine gq_iadd X dX7_finishFirst_306 ?_
                      refine gq_letr (fun s27 es27 => ?_)
                      refine gq_ast (ws' := gw_M cA a s27) X 21 gl_M_c21 (by unfold vp_in; decide) (by rw [es27]; exact gl_M_a21) dX7_finishFirst_307 ?_
                      refine gq_aload_n X dX7_finishFirst_308 9 rfl ?_
                      refine gq_get (C := RX7) (T := TX7) (N := 34) X iX7_finishFirst_X7 0 gl_M_c0 rfl 30 (by decide) fX7_finishFirst_X7_30 rfl dX7_finishFirst_309 ?_
                      refine gq_bipush (v := 6) X dX7_finishFirst_312 (by decide) ?_
                      refine gq_dup2 X dX7_finishFirst_314 rfl rfl ?_
                      refine gq_ald X 21 gl_M_c21 (by unfold vp_in; decide) dX7_finishFirst_315 ?_
                      refine gq_letr (fun v28 ev28 => ?_)
                      refine gq_join (ws' := gw_M cA a s27) (lv' := [(9, .int 4), (8, .int v9), (7, .int v8), (6, .int v7), (5, .int r5.1), (4, .int (gq_b b4)), (3, .int (gq_b b3)), (2, .int v2), (1, .int v1), (0, .ref (a 0))]) (pc' := 325) (st' := [.int v28, .int ((mg_counts s27) (gq_ix 6)), .int 6, .ref (a 21)]) ?_ (fun J325 => ?_)
                      · refine gq_iadd X dX7_finishFirst_325 ?_
                        refine gq_letr (fun s29 es29 => ?_)
                        refine gq_ast (ws' := gw_M cA a s29) X 21 gl_M_c21 (by unfold vp_in; decide) (by rw [es29]; exact gl_M_a21) dX7_finishFirst_326 ?_
                        refine gq_aload_n X dX7_finishFirst_327 9 rfl ?_
                        refine gq_get (C := RX7) (T := TX7) (N := 34) X iX7_finishFirst_X7 0 gl_M_c0 rfl 30 (by decide) fX7_finishFirst_X7_30 rfl dX7_finishFirst_328 ?_
                        refine gq_bipush (v := 7) X dX7_finishFirst_331 (by decide) ?_
                        refine gq_dup2 X dX7_finishFirst_333 rfl rfl ?_
                        refine gq_ald X 21 gl_M_c21 (by unfold vp_in; decide) dX7_finishFirst_334 ?_
                        refine gq_letr (fun v30 ev30 => ?_)
                        refine gq_join (ws' := gw_M cA a s29) (lv' := [(9, .int 4), (8, .int v9), (7, .int v8), (6, .int v7), (5, .int r5.1), (4, .int (gq_b b4)), (3, .int (gq_b b3)), (2, .int v2), (1, .int v1), (0, .ref (a 0))]) (pc' := 346) (st' := [.int v30, .int ((mg_counts s29) (gq_ix 7)), .int 7, .ref (a 21)]) ?_ (fun J346 => ?_)
                        · refine gq_iadd X dX7_finishFirst_346 ?_
                          refine gq_letr (fun s31 es31 => ?_)
                          refine gq_ast (ws' := gw_M cA a s31) X 21 gl_M_c21 (by unfold vp_in; decide) (by rw [es31]; exact gl_M_a21) dX7_finishFirst_347 ?_
                          refine gq_aload_n X dX7_finishFirst_348 9 rfl ?_
                          refine gq_get (C := RX7) (T := TX7) (N := 34) X iX7_finishFirst_X7 0 gl_M_c0 rfl 30 (by decide) fX7_finishFirst_X7_30 rfl dX7_finishFirst_349 ?_
                          refine gq_iconst (v := 3) X dX7_finishFirst_352 gq_i3 ?_
                          refine gq_dup2 X dX7_finishFirst_353 rfl rfl ?_
                          refine gq_ald X 21 gl_M_c21 (by unfold vp_in; decide) dX7_finishFirst_354 ?_
                          refine gq_aload_n X dX7_finishFirst_355 9 rfl ?_
                          refine gq_get (C := RX7) (T := TX7) (N := 34) X iX7_finishFirst_X7 0 gl_M_c0 rfl 20 (by decide) fX7_finishFirst_X7_20 rfl dX7_finishFirst_356 ?_
                          refine gq_iadd X dX7_finishFirst_359 ?_
                          refine gq_letr (fun s32 es32 => ?_)
                          refine gq_ast (ws' := gw_M cA a s32) X 21 gl_M_c21 (by unfold vp_in; decide) (by rw [es32]; exact gl_M_a21) dX7_finishFirst_360 ?_
                          refine gq_aload_n X dX7_finishFirst_361 9 rfl ?_
                          refine gq_iconst (v := 0) X dX7_finishFirst_362 gq_i0 ?_
                          refine gq_letr (fun s33 es33 => ?_)
                          refine gq_put (C := RX7) (T := TX7) (N := 34) (ws' := gw_M cA a s33) X iX7_finishFirst_X7 tyX7 tyX7_ok nmX7 0 gl_M_c0 rfl 20 (by decide) fX7_finishFirst_X7_20 rfl rfl rfl (Nat.le_of_ble_eq_true rfl) (by rw [es33]; exact gl_M_f20) dX7_finishFirst_363 ?_
                          have ts33_mg_fetched : mg_fetched s33 = 0 := by rw [es33]; exact (mfr_fetched _ _).2.2.2.2.2.2.2.2.2.2.2.2.2.2.2.2.2.2.2.2.1
                          refine gq_aload_n X dX7_finishFirst_366 9 rfl ?_
                          refine gq_iload X dX7_finishFirst_367 4 rfl ?_
                          refine gq_letr (fun s34 es34 => ?_)
                          refine gq_put (C := RX7) (T := TX7) (N := 34) (ws' := gw_M cA a s34) X iX7_finishFirst_X7 tyX7 tyX7_ok nmX7 0 gl_M_c0 rfl 29 (by decide) fX7_finishFirst_X7_29 rfl rfl rfl (Nat.le_of_ble_eq_true rfl) (by rw [es34]; exact gl_M_f29) dX7_finishFirst_369 ?_
                          have ts34_mg_fetched : mg_fetched s34 = 0 := by rw [es34]; exact (mfr_place _ _).2.2.2.2.2.2.2.2.2.2.2.2.2.2.2.2.2.2.2.2.1.trans ts33_mg_fetched
                          refine gq_aload_n X dX7_finishFirst_372 9 rfl ?_
                          refine gq_iload X dX7_finishFirst_373 2 rfl ?_
                          refine gq_letr (fun s35 es35 => ?_)
                          refine gq_put (C := RX7) (T := TX7) (N := 34) (ws' := gw_M cA a s35) X iX7_finishFirst_X7 tyX7 tyX7_ok nmX7 0 gl_M_c0 rfl 14 (by decide) fX7_finishFirst_X7_14 rfl rfl rfl (Nat.le_of_ble_eq_true rfl) (by rw [es35]; exact gl_M_f14) dX7_finishFirst_375 ?_
                          have ts35_mg_fetched : mg_fetched s35 = 0 := by rw [es35]; exact (mfr_history _ _).2.2.2.2.2.2.2.2.2.2.2.2.2.2.2.2.2.2.2.2.1.trans ts34_mg_fetched
                          refine gq_aload_n X dX7_finishFirst_378 9 rfl ?_
                          refine gq_iload X dX7_finishFirst_379 1 rfl ?_
                          refine gq_letr (fun s36 es36 => ?_)
                          refine gq_put (C := RX7) (T := TX7) (N := 34) (ws' := gw_M cA a s36) X iX7_finishFirst_X7 tyX7 tyX7_ok nmX7 0 gl_M_c0 rfl 19 (by decide) fX7_finishFirst_X7_19 rfl rfl rfl (Nat.le_of_ble_eq_true rfl) (by rw [es36]; exact gl_M_f19) dX7_finishFirst_381 ?_
                          have ts36_mg_fetched : mg_fetched s36 = 0 := by rw [es36]; exact (mfr_returned _ _).2.2.2.2.2.2.2.2.2.2.2.2.2.2.2.2.2.2.2.2.1.trans ts35_mg_fetched
                          have ts36_mg_returned : mg_returned s36 = v9 := by rw [es36]; exact (mfr_returned _ _).2.2.2.2.2.2.2.2.2.2.2.2.2.2.2.2.2.2.2.1
                          refine gq_iconst (v := 0) X dX7_finishFirst_384 gq_i0 ?_
                          refine gq_istore (lv' := [(9, .int 0), (8, .int v9), (7, .int v8), (6, .int v7), (5, .int r5.1), (4, .int (gq_b b4)), (3, .int (gq_b b3)), (2, .int v2), (1, .int v1), (0, .ref (a 0))]) X dX7_finishFirst_385 (by decide) rfl ?_
                          refine gq_iload X dX7_finishFirst_387 0 rfl ?_
                          refine gq_iconst (v := 4) X dX7_finishFirst_389 gq_i4 ?_
                          refine gq_icmp_ge (tgt := 413) X dX7_finishFirst_390 (by decide) (fun h => absurd h (by decide)) (fun _ => ?_)
                          refine gq_aload_n X dX7_finishFirst_393 9 rfl ?_
                          refine gq_get (C := RX7) (T := TX7) (N := 34) X iX7_finishFirst_X7 0 gl_M_c0 rfl 18 (by decide) fX7_finishFirst_X7_18 rfl dX7_finishFirst_394 ?_
                          refine gq_iload X dX7_finishFirst_397 0 rfl ?_
                          refine gq_aload_n X dX7_finishFirst_399 9 rfl ?_
                          refine gq_get (C := RX7) (T := TX7) (N := 34) X iX7_finishFirst_X7 0 gl_M_c0 rfl 32 (by decide) fX7_finishFirst_X7_32 rfl dX7_finishFirst_400 ?_
                          refine gq_iload X dX7_finishFirst_403 0 rfl ?_
                          refine gq_ald X 23 gl_M_c23 (by unfold vp_in; decide) dX7_finishFirst_405 ?_
                          refine gq_letr (fun s37 es37 => ?_)
                          refine gq_ast (ws' := gw_M cA a s37) X 14 gl_M_c14 (by unfold vp_in; decide) (by rw [es37]; exact gl_M_a14) dX7_finishFirst_406 ?_
                          have ts37_mg_fetched : mg_fetched s37 = 0 := by rw [es37]; exact (mfr_returns _ _).2.2.2.2.2.2.2.2.2.2.2.2.2.2.2.2.2.2.2.2.1.trans ts36_mg_fetched
                          have ts37_mg_returned : mg_returned s37 = v9 := by rw [es37]; exact (mfr_returns _ _).2.2.2.2.2.2.2.2.2.2.2.2.2.2.2.2.2.2.2.1.trans ts36_mg_returned
                          refine gq_iinc (lv' := [(9, .int 1), (8, .int v9), (7, .int v8), (6, .int v7), (5, .int r5.1), (4, .int (gq_b b4)), (3, .int (gq_b b3)), (2, .int v2), (1, .int v1), (0, .ref (a 0))]) X dX7_finishFirst_407 0 rfl (by decide) (by decide) rfl ?_
                          refine gq_goto (tgt := 387) X dX7_finishFirst_410 (by decide) ?_
                          refine gq_iload X dX7_finishFirst_387 0 rfl ?_
                          refine gq_iconst (v := 4) X dX7_finishFirst_389 gq_i4 ?_
                          refine gq_icmp_ge (tgt := 413) X dX7_finishFirst_390 (by decide) (fun h => absurd h (by decide)) (fun _ => ?_)
                          refine gq_aload_n X dX7_finishFirst_393 9 rfl ?_
                          refine gq_get (C := RX7) (T := TX7) (N := 34) X iX7_finishFirst_X7 0 gl_M_c0 rfl 18 (by decide) fX7_finishFirst_X7_18 rfl dX7_finishFirst_394 ?_
                          refine gq_iload X dX7_finishFirst_397 0 rfl ?_
                          refine gq_aload_n X dX7_finishFirst_399 9 rfl ?_
                          refine gq_get (C := RX7) (T := TX7) (N := 34) X iX7_finishFirst_X7 0 gl_M_c0 rfl 32 (by decide) fX7_finishFirst_X7_32 rfl dX7_finishFirst_400 ?_
                          refine gq_iload X dX7_finishFirst_403 0 rfl ?_
                          refine gq_ald X 23 gl_M_c23 (by unfold vp_in; decide) dX7_finishFirst_405 ?_
                          refine gq_letr (fun s38 es38 => ?_)
                          refine gq_ast (ws' := gw_M cA a s38) X 14 gl_M_c14 (by unfold vp_in; decide) (by rw [es38]; exact gl_M_a14) dX7_finishFirst_406 ?_
                          have ts38_mg_fetched : mg_fetched s38 = 0 := by rw [es38]; exact (mfr_returns _ _).2.2.2.2.2.2.2.2.2.2.2.2.2.2.2.2.2.2.2.2.1.trans ts37_mg_fetched
                          have ts38_mg_returned : mg_returned s38 = v9 := by rw [es38]; exact (mfr_returns _ _).2.2.2.2.2.2.2.2.2.2.2.2.2.2.2.2.2.2.2.1.trans ts37_mg_returned
                          refine gq_iinc (lv' := [(9, .int 2), (8, .int v9), (7, .int v8), (6, .int v7), (5, .int r5.1), (4, .int (gq_b b4)), (3, .int (gq_b b3)), (2, .int v2), (1, .int v1), (0, .ref (a 0))]) X dX7_finishFirst_407 0 rfl (by decide) (by decide) rfl ?_
                          refine gq_goto (tgt := 387) X dX7_finishFirst_410 (by decide) ?_
                          refine gq_iload X dX7_finishFirst_387 0 rfl ?_
                          refine gq_iconst (v := 4) X dX7_finishFirst_389 gq_i4 ?_
                          refine gq_icmp_ge (tgt := 413) X dX7_finishFirst_390 (by decide) (fun h => absurd h (by decide)) (fun _ => ?_)
                          refine gq_aload_n X dX7_finishFirst_393 9 rfl ?_
                          refine gq_get (C := RX7) (T := TX7) (N := 34) X iX7_finishFirst_X7 0 gl_M_c0 rfl 18 (by decide) fX7_finishFirst_X7_18 rfl dX7_finishFirst_394 ?_
                          refine gq_iload X dX7_finishFirst_397 0 rfl ?_
                          refine gq_aload_n X dX7_finishFirst_399 9 rfl ?_
                          refine gq_get (C := RX7) (T := TX7) (N := 34) X iX7_finishFirst_X7 0 gl_M_c0 rfl 32 (by decide) fX7_finishFirst_X7_32 rfl dX7_finishFirst_400 ?_
                          refine gq_iload X dX7_finishFirst_403 0 rfl ?_
                          refine gq_ald X 23 gl_M_c23 (by unfold vp_in; decide) dX7_finishFirst_405 ?_
                          refine gq_letr (fun s39 es39 => ?_)
                          refine gq_ast (ws' := gw_M cA a s39) X 14 gl_M_c14 (by unfold vp_in; decide) (by rw [es39]; exact gl_M_a14) dX7_finishFirst_406 ?_
                          have ts39_mg_fetched : mg_fetched s39 = 0 := by rw [es39]; exact (mfr_returns _ _).2.2.2.2.2.2.2.2.2.2.2.2.2.2.2.2.2.2.2.2.1.trans ts38_mg_fetched
                          have ts39_mg_returned : mg_returned s39 = v9 := by rw [es39]; exact (mfr_returns _ _).2.2.2.2.2.2.2.2.2.2.2.2.2.2.2.2.2.2.2.1.trans ts38_mg_returned
                          refine gq_iinc (lv' := [(9, .int 3), (8, .int v9), (7, .int v8), (6, .int v7), (5, .int r5.1), (4, .int (gq_b b4)), (3, .int (gq_b b3)), (2, .int v2), (1, .int v1), (0, .ref (a 0))]) X dX7_finishFirst_407 0 rfl (by decide) (by decide) rfl ?_
                          refine gq_goto (tgt := 387) X dX7_finishFirst_410 (by decide) ?_
                          refine gq_iload X dX7_finishFirst_387 0 rfl ?_
                          refine gq_iconst (v := 4) X dX7_finishFirst_389 gq_i4 ?_
                          refine gq_icmp_ge (tgt := 413) X dX7_finishFirst_390 (by decide) (fun h => absurd h (by decide)) (fun _ => ?_)
                          refine gq_aload_n X dX7_finishFirst_393 9 rfl ?_
                          refine gq_get (C := RX7) (T := TX7) (N := 34) X iX7_finishFirst_X7 0 gl_M_c0 rfl 18 (by decide) fX7_finishFirst_X7_18 rfl dX7_finishFirst_394 ?_
                          refine gq_iload X dX7_finishFirst_397 0 rfl ?_
                          refine gq_aload_n X dX7_finishFirst_399 9 rfl ?_
                          refine gq_get (C := RX7) (T := TX7) (N := 34) X iX7_finishFirst_X7 0 gl_M_c0 rfl 32 (by decide) fX7_finishFirst_X7_32 rfl dX7_finishFirst_400 ?_
                          refine gq_iload X dX7_finishFirst_403 0 rfl ?_
                          refine gq_ald X 23 gl_M_c23 (by unfold vp_in; decide) dX7_finishFirst_405 ?_
                          refine gq_letr (fun s40 es40 => ?_)
                          refine gq_ast (ws' := gw_M cA a s40) X 14 gl_M_c14 (by unfold vp_in; decide) (by rw [es40]; exact gl_M_a14) dX7_finishFirst_406 ?_
                          have ts40_mg_fetched : mg_fetched s40 = 0 := by rw [es40]; exact (mfr_returns _ _).2.2.2.2.2.2.2.2.2.2.2.2.2.2.2.2.2.2.2.2.1.trans ts39_mg_fetched
                          have ts40_mg_returned : mg_returned s40 = v9 := by rw [es40]; exact (mfr_returns _ _).2.2.2.2.2.2.2.2.2.2.2.2.2.2.2.2.2.2.2.1.trans ts39_mg_returned
                          refine gq_iinc (lv' := [(9, .int 4), (8, .int v9), (7, .int v8), (6, .int v7), (5, .int r5.1), (4, .int (gq_b b4)), (3, .int (gq_b b3)), (2, .int v2), (1, .int v1), (0, .ref (a 0))]) X dX7_finishFirst_407 0 rfl (by decide) (by decide) rfl ?_
                          refine gq_goto (tgt := 387) X dX7_finishFirst_410 (by decide) ?_
                          refine gq_iload X dX7_finishFirst_387 0 rfl ?_
                          refine gq_iconst (v := 4) X dX7_finishFirst_389 gq_i4 ?_
                          refine gq_icmp_ge (tgt := 413) X dX7_finishFirst_390 (by decide) (fun _ => ?_) (fun h => absurd (by decide) h)
                          refine gq_iload_n X dX7_finishFirst_413 6 rfl ?_
                          refine gq_fbif_eq (tgt := 426) X dX7_finishFirst_414 (by decide) (fun h414 => ?_) (fun h414 => ?_)
                          · refine gq_aload_n X dX7_finishFirst_417 9 rfl ?_
                            refine gq_iload X dX7_finishFirst_418 5 rfl ?_
                            refine gq_letr (fun s41 es41 => ?_)
                            refine gq_callVv (ws' := gw_M cA a s41) X (c_X7_bit l D cA a s40 b4) rfl ⟨rfl, rfl⟩ ⟨Nat.le_of_ble_eq_true rfl, Nat.le_of_ble_eq_true rfl⟩ gX7_finishFirst_X7_bit hv_X7_bit 0 gl_M_c0 rfl [0, 1, 2, 3, 4, 5, 6, 7, 8, 9, 10, 11, 12, 13, 14, 15, 16, 17, 18, 19, 20, 21, 22, 23] gl_M_self_at gl_M_self_nd gl_M_fst (by rw [es41]; exact gl_M_self_set) rfl rfl (Nat.le_of_ble_eq_true rfl) ⟨Nat.zero_le _, Nat.zero_le _⟩ dX7_finishFirst_420 ?_
                            refine gq_goto (tgt := 465) X dX7_finishFirst_423 (by decide) ?_
                            exact gq_vretf X dX7_finishFirst_465 rfl rfl
                          · refine gq_iload_n X dX7_finishFirst_426 7 rfl ?_
                            refine gq_bipush (v := 8) X dX7_finishFirst_427 (by decide) ?_
                            refine gq_ficmp_ne (tgt := 442) X dX7_finishFirst_429 (by decide) (fun h429 => ?_) (fun h429 => ?_)
                            · refine gq_aload_n X dX7_finishFirst_432 9 rfl ?_
                              refine gq_iload_n X dX7_finishFirst_433 8 rfl ?_
                              refine gq_iconst (v := 1) X dX7_finishFirst_434 gq_i1 ?_
                              refine gq_iadd X dX7_finishFirst_435 ?_
                              refine gq_letr (fun s42 es42 => ?_)
                              refine gq_callVv (ws' := gw_M cA a s42) X (c_X7_push l D cA a s40 (v1 + 1) (by rw [ts40_mg_returned, ev9, ts6_mg_fetchReturned]; exact hfr 0 (by decide))) rfl ⟨rfl, rfl⟩ ⟨Nat.le_of_ble_eq_true rfl, Nat.le_of_ble_eq_true rfl⟩ gX7_finishFirst_X7_push hv_X7_push 0 gl_M_c0 rfl [0, 1, 2, 3, 4, 5, 6, 7, 8, 9, 10, 11, 12, 13, 14, 15, 16, 17, 18, 19, 20, 21, 22, 23] gl_M_self_at gl_M_self_nd gl_M_fst (by rw [es42]; exact gl_M_self_set) rfl rfl (Nat.le_of_ble_eq_true rfl) ⟨Nat.zero_le _, Nat.zero_le _⟩ dX7_finishFirst_436 ?_
                              refine gq_goto (tgt := 465) X dX7_finishFirst_439 (by decide) ?_
                              exact gq_vretf X dX7_finishFirst_465 rfl rfl
                            · refine gq_iload_n X dX7_finishFirst_442 7 rfl ?_
                              refine gq_bipush (v := 9) X dX7_finishFirst_443 (by decide) ?_
                              refine gq_ficmp_ne (tgt := 465) X dX7_finishFirst_445 (by decide) (fun h445 => ?_) (fun h445 => ?_)
                              · refine gq_aload_n X dX7_finishFirst_448 9 rfl ?_
                                refine gq_get (C := RX7) (T := TX7) (N := 34) X iX7_finishFirst_X7 0 gl_M_c0 rfl 19 (by decide) fX7_finishFirst_X7_19 rfl dX7_finishFirst_449 ?_
                                refine gq_fif_le (tgt := 465) X dX7_finishFirst_452 (by decide) (fun h452 => ?_) (fun h452 => ?_)
                                · exact gq_vretf X dX7_finishFirst_465 rfl rfl
                                · refine gq_aload_n X dX7_finishFirst_455 9 rfl ?_
                                  refine gq_dup X dX7_finishFirst_456 rfl ?_
                                  refine gq_get (C := RX7) (T := TX7) (N := 34) X iX7_finishFirst_X7 0 gl_M_c0 rfl 19 (by decide) fX7_finishFirst_X7_19 rfl dX7_finishFirst_457 ?_
                                  refine gq_iconst (v := 1) X dX7_finishFirst_460 gq_i1 ?_
                                  refine gq_isub X dX7_finishFirst_461 ?_
                                  refine gq_letr (fun s43 es43 => ?_)
                                  refine gq_put (C := RX7) (T := TX7) (N := 34) (ws' := gw_M cA a s43) X iX7_finishFirst_X7 tyX7 tyX7_ok nmX7 0 gl_M_c0 rfl 19 (by decide) fX7_finishFirst_X7_19 rfl rfl rfl (Nat.le_of_ble_eq_true rfl) (by rw [es43]; exact gl_M_f19) dX7_finishFirst_462 ?_
                                  have ts43_mg_fetched : mg_fetched s43 = 0 := by rw [es43]; exact (mfr_returned _ _).2.2.2.2.2.2.2.2.2.2.2.2.2.2.2.2.2.2.2.2.1.trans ts40_mg_fetched
                                  exact gq_vretf X dX7_finishFirst_465 rfl rfl
                              · exact gq_vretf X dX7_finishFirst_465 rfl rfl
                        refine gq_iload_n X dX7_finishFirst_335 7 rfl ?_
                        refine gq_bipush (v := 9) X dX7_finishFirst_336 (by decide) ?_
                        refine gq_icmp_ne (tgt := 345) X dX7_finishFirst_338 (by decide) (fun h338 => ?_) (fun h338 => ?_)
                        · refine gq_iconst (v := 0) X dX7_finishFirst_345 gq_i0 ?_
                          refine gq_eqst (st' := .int v30 :: _) (by rw [ev30, if_neg h338]) ?_
                          exact J346
                        · refine gq_iconst (v := 1) X dX7_finishFirst_341 gq_i1 ?_
                          refine gq_goto (tgt := 346) X dX7_finishFirst_342 (by decide) ?_
                          refine gq_eqst (st' := .int v30 :: _) (by rw [ev30, if_pos h338]) ?_
                          exact J346
                      refine gq_iload_n X dX7_finishFirst_316 6 rfl ?_
                      refine gq_bif_eq (tgt := 324) X dX7_finishFirst_317 (by decide) (fun h317 => ?_) (fun h317 => ?_)
                      · refine gq_iconst (v := 0) X dX7_finishFirst_324 gq_i0 ?_
                        refine gq_eqst (st' := .int v28 :: _) (by rw [ev28, h317]; rfl) ?_
                        exact J325
                      · refine gq_iconst (v := 1) X dX7_finishFirst_320 gq_i1 ?_
                        refine gq_goto (tgt := 325) X dX7_finishFirst_321 (by decide) ?_
                        refine gq_eqst (st' := .int v28 :: _) (by rw [ev28, h317]; rfl) ?_
                        exact J325
                  refine gq_iload X dX7_finishFirst_244 5 rfl ?_
                  refine gq_bif_eq (tgt := 280) X dX7_finishFirst_246 (by decide) (fun h246 => ?_) (fun h246 => ?_)
                  · refine gq_eqw (ws' := gw_M cA a s25) (by rw [es25, h246]; rfl) ?_
                    exact J280
                  · refine gq_aload_n X dX7_finishFirst_249 9 rfl ?_
                    refine gq_get (C := RX7) (T := TX7) (N := 34) X iX7_finishFirst_X7 0 gl_M_c0 rfl 15 (by decide) fX7_finishFirst_X7_15 rfl dX7_finishFirst_250 ?_
                    refine gq_iload_n X dX7_finishFirst_253 8 rfl ?_
                    refine gq_bipush (v := 8) X dX7_finishFirst_254 (by decide) ?_
                    refine gq_irem X dX7_finishFirst_256 (by decide) ?_
                    refine gq_iload_n X dX7_finishFirst_257 8 rfl ?_
                    obtain ⟨s44, es44⟩ : ∃ y, y = ms_targetAt s24 (upd (mg_targetAt s24) (gq_ix (gq_rem v1 8)) v1) := ⟨_, rfl⟩
                    refine gq_ast (ws' := gw_M cA a s44) X 11 gl_M_c11 (by rw [ev1]; exact mv_rem8 (hfa 0 (by decide))) (by rw [es44]; exact gl_M_a11) dX7_finishFirst_258 ?_
                    refine gq_aload_n X dX7_finishFirst_259 9 rfl ?_
                    refine gq_get (C := RX7) (T := TX7) (N := 34) X iX7_finishFirst_X7 0 gl_M_c0 rfl 16 (by decide) fX7_finishFirst_X7_16 rfl dX7_finishFirst_260 ?_
                    refine gq_iload_n X dX7_finishFirst_263 8 rfl ?_
                    refine gq_bipush (v := 8) X dX7_finishFirst_264 (by decide) ?_
                    refine gq_irem X dX7_finishFirst_266 (by decide) ?_
                    refine gq_iload_n X dX7_finishFirst_267 7 rfl ?_
                    obtain ⟨s45, es45⟩ : ∃ y, y = ms_targetKind s44 (upd (mg_targetKind s44) (gq_ix (gq_rem v1 8)) v2) := ⟨_, rfl⟩
                    refine gq_ast (ws' := gw_M cA a s45) X 12 gl_M_c12 (by rw [ev1]; exact mv_rem8 (hfa 0 (by decide))) (by rw [es45]; exact gl_M_a12) dX7_finishFirst_268 ?_
                    refine gq_aload_n X dX7_finishFirst_269 9 rfl ?_
                    refine gq_get (C := RX7) (T := TX7) (N := 34) X iX7_finishFirst_X7 0 gl_M_c0 rfl 17 (by decide) fX7_finishFirst_X7_17 rfl dX7_finishFirst_270 ?_
                    refine gq_iload_n X dX7_finishFirst_273 8 rfl ?_
                    refine gq_bipush (v := 8) X dX7_finishFirst_274 (by decide) ?_
                    refine gq_irem X dX7_finishFirst_276 (by decide) ?_
                    refine gq_iload X dX7_finishFirst_277 4 rfl ?_
                    obtain ⟨s46, es46⟩ : ∃ y, y = ms_target s45 (upd (mg_target s45) (gq_ix (gq_rem v1 8)) r5.1) := ⟨_, rfl⟩
                    refine gq_ast (ws' := gw_M cA a s46) X 13 gl_M_c13 (by rw [ev1]; exact mv_rem8 (hfa 0 (by decide))) (by rw [es46]; exact gl_M_a13) dX7_finishFirst_279 ?_
                    refine gq_eqw (ws' := gw_M cA a s25) (by rw [es25, h246, es46, es45, es44]; rfl) ?_
                    exact J280
                refine gq_iload_n X dX7_finishFirst_231 6 rfl ?_
                refine gq_bif_eq (tgt := 244) X dX7_finishFirst_232 (by decide) (fun h232 => ?_) (fun h232 => ?_)
                · refine gq_eqw (ws' := gw_M cA a s24) (by rw [es24, h232]; rfl) ?_
                  exact J244
                · refine gq_aload_n X dX7_finishFirst_235 9 rfl ?_
                  refine gq_iload_n X dX7_finishFirst_236 8 rfl ?_
                  refine gq_iload X dX7_finishFirst_237 5 rfl ?_
                  refine gq_iload X dX7_finishFirst_239 2 rfl ?_
                  obtain ⟨s47, es47⟩ : ∃ y, y = k_X7_learn s22 v1 b4 v8 := ⟨_, rfl⟩
                  refine gq_callVv (ws' := gw_M cA a s47) X (c_X7_learn l D cA a s22 v1 b4 v8 (by rw [ev1]; exact hfa 0 (by decide)) (by rw [ev8, ts6_mg_fetchHistory]; exact hfh 0 (by decide))) rfl ⟨rfl, rfl⟩ ⟨Nat.le_of_ble_eq_true rfl, Nat.le_of_ble_eq_true rfl⟩ gX7_finishFirst_X7_learn hv_X7_learn 0 gl_M_c0 rfl [0, 1, 2, 3, 4, 5, 6, 7, 8, 9, 10, 11, 12, 13, 14, 15, 16, 17, 18, 19, 20, 21, 22, 23] gl_M_self_at gl_M_self_nd gl_M_fst (by rw [es47]; exact gl_M_self_set) rfl rfl (Nat.le_of_ble_eq_true rfl) ⟨Nat.zero_le _, Nat.zero_le _⟩ dX7_finishFirst_241 ?_
                  refine gq_eqw (ws' := gw_M cA a s24) (by rw [es24, h232, es47]; rfl) ?_
                  exact J244
            refine gq_iload_n X dX7_finishFirst_208 6 rfl ?_
            refine gq_bif_eq (tgt := 216) X dX7_finishFirst_209 (by decide) (fun h209 => ?_) (fun h209 => ?_)
            · refine gq_iconst (v := 0) X dX7_finishFirst_216 gq_i0 ?_
              refine gq_eqst (st' := .int v21 :: _) (by rw [ev21, h209]; rfl) ?_
              exact J217
            · refine gq_iconst (v := 1) X dX7_finishFirst_212 gq_i1 ?_
              refine gq_goto (tgt := 217) X dX7_finishFirst_213 (by decide) ?_
              refine gq_eqst (st' := .int v21 :: _) (by rw [ev21, h209]; rfl) ?_
              exact J217
          refine gq_iload_n X dX7_finishFirst_184 7 rfl ?_
          refine gq_iconst (v := 5) X dX7_finishFirst_185 gq_i5 ?_
          refine gq_bipush (v := 10) X dX7_finishFirst_186 (by decide) ?_
          refine gq_callSr (ws' := gw_M cA a s18) X (c_X7_in l D cA v2 5 10) rfl ⟨rfl, rfl⟩ ⟨Nat.le_of_ble_eq_true rfl, Nat.le_of_ble_eq_true rfl⟩ gX7_finishFirst_X7_in hd_X7_in [] rfl (by decide) rfl rfl rfl rfl (Nat.le_of_ble_eq_true rfl) ⟨Nat.zero_le _, Nat.zero_le _⟩ dX7_finishFirst_188 ?_
          refine gq_bif_eq (tgt := 198) X dX7_finishFirst_191 (by decide) (fun h191 => ?_) (fun h191 => ?_)
          · refine gq_iconst (v := 0) X dX7_finishFirst_198 gq_i0 ?_
            refine gq_eqst (st' := .int v19 :: _) (by rw [ev19, h191]; rfl) ?_
            exact J199
          · refine gq_iconst (v := 1) X dX7_finishFirst_194 gq_i1 ?_
            refine gq_goto (tgt := 199) X dX7_finishFirst_195 (by decide) ?_
            refine gq_eqst (st' := .int v19 :: _) (by rw [ev19, h191]; rfl) ?_
            exact J199
        refine gq_aload_n X dX7_finishFirst_132 9 rfl ?_
        refine gq_get (C := RX7) (T := TX7) (N := 34) X iX7_finishFirst_X7 0 gl_M_c0 rfl 30 (by decide) fX7_finishFirst_X7_30 rfl dX7_finishFirst_133 ?_
        refine gq_iconst (v := 1) X dX7_finishFirst_136 gq_i1 ?_
        refine gq_ald X 21 gl_M_c21 (by unfold vp_in; decide) dX7_finishFirst_137 ?_
        refine gq_sipush (v := 300) X dX7_finishFirst_138 (by decide) ?_
        refine gq_icmp_ge (tgt := 156) X dX7_finishFirst_141 (by decide) (fun h141 => ?_) (fun h141 => ?_)
        · refine gq_eqw (ws' := gw_M cA a s16) (by rw [es16, m_noteD, if_pos h141]) ?_
          exact J156
        · refine gq_aload_n X dX7_finishFirst_144 9 rfl ?_
          refine gq_get (C := RX7) (T := TX7) (N := 34) X iX7_finishFirst_X7 0 gl_M_c0 rfl 31 (by decide) fX7_finishFirst_X7_31 rfl dX7_finishFirst_145 ?_
          refine gq_aload_n X dX7_finishFirst_148 9 rfl ?_
          refine gq_get (C := RX7) (T := TX7) (N := 34) X iX7_finishFirst_X7 0 gl_M_c0 rfl 30 (by decide) fX7_finishFirst_X7_30 rfl dX7_finishFirst_149 ?_
          refine gq_iconst (v := 1) X dX7_finishFirst_152 gq_i1 ?_
          refine gq_ald X 21 gl_M_c21 (by unfold vp_in; decide) dX7_finishFirst_153 ?_
          refine gq_iload_n X dX7_finishFirst_154 8 rfl ?_
          obtain ⟨s48, es48⟩ : ∃ y, y = ms_doneAt s14 (upd (mg_doneAt s14) (gq_ix ((mg_counts s14) (gq_ix 1))) v1) := ⟨_, rfl⟩
          refine gq_ast (ws' := gw_M cA a s48) X 22 gl_M_c22 (mv_lt (k := 300) (n := 300) (by decide) (by rw [ts14_mg_counts]; exact hc) h141 (by decide)) (by rw [es48]; exact gl_M_a22) dX7_finishFirst_155 ?_
          have ts48_mg_counts : mg_counts s48 = mg_counts S := by rw [es48]; exact (mfr_doneAt _ _).2.2.2.2.2.2.2.2.2.2.2.2.2.2.2.2.2.2.2.2.2.2.2.2.2.2.2.2.2.2.1.trans ts14_mg_counts
          have ts48_mg_returned : mg_returned s48 = mg_returned S := by rw [es48]; exact (mfr_doneAt _ _).2.2.2.2.2.2.2.2.2.2.2.2.2.2.2.2.2.2.2.1.trans ts14_mg_returned
          refine gq_eqw (ws' := gw_M cA a s16) (by rw [es16, m_noteD, if_neg h141, es48]) ?_
          exact J156
    refine gq_iload_n X dX7_finishFirst_31 1 rfl ?_
    refine gq_iconst (v := 5) X dX7_finishFirst_32 gq_i5 ?_
    refine gq_bipush (v := 10) X dX7_finishFirst_33 (by decide) ?_
    refine gq_callSr (ws' := gw_M cA a S) X (c_X7_in l D cA v2 5 10) rfl ⟨rfl, rfl⟩ ⟨Nat.le_of_ble_eq_true rfl, Nat.le_of_ble_eq_true rfl⟩ gX7_finishFirst_X7_in hd_X7_in [] rfl (by decide) rfl rfl rfl rfl (Nat.le_of_ble_eq_true rfl) ⟨Nat.zero_le _, Nat.zero_le _⟩ dX7_finishFirst_35 ?_
    refine gq_bif_eq (tgt := 53) X dX7_finishFirst_38 (by decide) (fun h38 => ?_) (fun h38 => ?_)
    · refine gq_iconst (v := 0) X dX7_finishFirst_53 gq_i0 ?_
      refine gq_eqst (st' := .int (gq_b b4) :: _) (by rw [eb4, m_and, h38]; rfl) ?_
      exact J54
    · refine gq_aload_n X dX7_finishFirst_41 3 rfl ?_
      refine gq_iload_n X dX7_finishFirst_42 2 rfl ?_
      refine gq_callVr (ws' := gw_M cA a S) X (c_X7_turned l D cA a S v1 (by rw [ev1]; exact hfa 0 (by decide)) has hbs) rfl ⟨rfl, rfl⟩ ⟨Nat.le_of_ble_eq_true rfl, Nat.le_of_ble_eq_true rfl⟩ gX7_finishFirst_X7_turned hv_X7_turned 0 gl_M_c0 rfl [0, 1, 2, 3, 4, 5, 6, 7, 8, 9, 10, 11, 12, 13, 14, 15, 16, 17, 18, 19, 20, 21, 22, 23] gl_M_self_at gl_M_self_nd gl_M_fst gl_M_self_same rfl rfl (Nat.le_of_ble_eq_true rfl) ⟨Nat.zero_le _, Nat.zero_le _⟩ dX7_finishFirst_43 ?_
      refine gq_bif_eq (tgt := 53) X dX7_finishFirst_46 (by decide) (fun h46 => ?_) (fun h46 => ?_)
      · refine gq_iconst (v := 0) X dX7_finishFirst_53 gq_i0 ?_
        refine gq_eqst (st' := .int (gq_b b4) :: _) (by rw [eb4, m_and, h38, h46]; rfl) ?_
        exact J54
      · refine gq_iconst (v := 1) X dX7_finishFirst_49 gq_i1 ?_
        refine gq_goto (tgt := 54) X dX7_finishFirst_50 (by decide) ?_
        refine gq_eqst (st' := .int (gq_b b4) :: _) (by rw [eb4, m_and, h38, h46]; rfl) ?_
        exact J54
  refine gq_iload_n X dX7_finishFirst_14 0 rfl ?_
  refine gq_iconst (v := 5) X dX7_finishFirst_15 gq_i5 ?_
  refine gq_icmp_eq (tgt := 25) X dX7_finishFirst_16 (by decide) (fun h16 => ?_) (fun h16 => ?_)
  · refine gq_iconst (v := 1) X dX7_finishFirst_25 gq_i1 ?_
    refine gq_goto (tgt := 30) X dX7_finishFirst_26 (by decide) ?_
    refine gq_eqst (st' := .int (gq_b b3) :: _) (by rw [eb3, m_isB, if_pos h16]; rfl) ?_
    exact J30
  · refine gq_iload_n X dX7_finishFirst_19 0 rfl ?_
    refine gq_bipush (v := 6) X dX7_finishFirst_20 (by decide) ?_
    refine gq_icmp_ne (tgt := 29) X dX7_finishFirst_22 (by decide) (fun h22 => ?_) (fun h22 => ?_)
    · refine gq_iconst (v := 0) X dX7_finishFirst_29 gq_i0 ?_
      refine gq_eqst (st' := .int (gq_b b3) :: _) (by rw [eb3, m_isB, if_neg h16, if_neg h22]; rfl) ?_
      exact J30
    · refine gq_iconst (v := 1) X dX7_finishFirst_25 gq_i1 ?_
      refine gq_goto (tgt := 30) X dX7_finishFirst_26 (by decide) ?_
      refine gq_eqst (st' := .int (gq_b b3) :: _) (by rw [eb3, m_isB, if_neg h16, if_pos h22]; rfl) ?_
      exact J30
