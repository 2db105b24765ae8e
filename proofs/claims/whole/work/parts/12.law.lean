/-! THE CLAIM OUT OF ONE WALK OF THE LAW'S BODY. Your part is whole_start (and what it stands on); all else here is the same for every law, but numbers. -/
def R_law : String := "GuessFetchLaw"
def lw_P (b : Addr) (xs : List Int32) (args : Array Value) (s : State) : Prop := args = #[.ref b] ∧ s.IntsAt b xs ∧ xs.length ≤ 2560 ∧ (Jvm.Cond.and given_1 narrow_1).before args s = true
def lw_Q (_ : Array Value) (s : State) (o : Outcome) (t : State) : Prop := o = .returned (some (.int 1)) ∧ Framed s o t [] 600000 7302250
def lw_Z (below : List Frame) (a : Array Value) (s : State) : State → Prop := fun t => ∃ o, t.status = .running ∧ Ended t below o ∧ lw_Q a s o t
/-- the law's own end, with 1 on the stack, nothing written that was there before, its room as the claim has it -/
theorem lw_ret {p : Program} {l : Launch} {e : Env} {s : State} {m : MethodId} {below : List Frame} {meth : Method} {c : Code} {b : Nat} (hx : p.tables.exec = Jvm.exec) (hb : c.code = code) (hr : meth.sig.returnType = ret) (hlocks : meth.locks = false) {pc : Nat} {H : Heap} {ls : Array Slot} (hdg : decode code pc = .ok (.ireturn, 1)) : W p l e room_1 s m #[Value.ref b] below meth c H [] 600000 7302250 (lw_Z below #[Value.ref b] s) (F0 m pc ls [.int 1]) := by
  intro T hT X
  obtain ⟨fs, hret, hrun, hended, hW, hframe⟩ := X.leave (v := some (.int 1)) (hlocks := hlocks) (fun h => by rw [hr] at h; cases h)
  have hmeth' : T.vm.method? m = some meth := X.method'
  refine ⟨T.setFrames fs, ?_, .returned (some (.int 1)), hrun, hended, rfl, ⟨_, rfl⟩, hW, hframe⟩
  jvm_step X.here [X.here.top, hx, hb, hdg, hmeth', hr, ret, narrow_b1]
  (try refine ⟨rfl, ?_⟩); (try refine ⟨rfl, ?_⟩)
  first | (intro acts; rw [hret _ acts rfl rfl rfl]) | rw [hret _ _ rfl rfl rfl]
  exact Steps.refl _
/-- what holds at the law's entry: the machine, the code, the tables' words (any of lw_tbl by 'hts w (by decide +kernel)'), the script of L ints xs at the cell b, what the Statement gives of the start (any of its parts by flat_of_before) -/
def lw_At (p : Program) (s : State) (m : MethodId) (meth : Method) (c : Code) (b L : Nat) (xs : Nat → Int32) : Prop :=
  p.tables.exec = Jvm.exec ∧ c.code = code ∧ meth.sig.returnType = ret ∧ c.maxLocals = 4 ∧ s.vm.findClass R_law = some m.cls ∧ (∀ w ∈ lw_tbl, w.before #[Value.ref b] s = true) ∧ va_X b L xs s s.heap ∧ b < s.heap.size ∧ meth.locks = false ∧ (Jvm.Cond.and given_1 narrow_1).before #[Value.ref b] s = true
def gw_Law (cA : ClassId) (a b : Nat → Nat) (S : gs_F × gs_M) : va_W := gw_GF cA a S.1 ++ gw_M cA b S.2
theorem gl_Law_0_at {cA : ClassId} {a b : Nat → Nat} {F : gs_F} {M : gs_M} : ([0, 1, 2, 3, 4, 5, 6, 7, 8, 9, 10, 11, 12, 13, 14, 15, 16, 17, 18, 19, 20, 21, 22, 23, 24, 25, 26, 27, 28, 29, 30, 31, 32, 33, 34, 35, 36, 37, 38, 39, 40, 41, 42] : List Nat).map (fun i => (gw_Law cA a b (F, M))[i]?) = (gw_GF cA a F).map some := rfl
theorem gl_Law_0_nd : va_nd [0, 1, 2, 3, 4, 5, 6, 7, 8, 9, 10, 11, 12, 13, 14, 15, 16, 17, 18, 19, 20, 21, 22, 23, 24, 25, 26, 27, 28, 29, 30, 31, 32, 33, 34, 35, 36, 37, 38, 39, 40, 41, 42] = true := by decide
theorem gl_Law_0_set {cA : ClassId} {a b : Nat → Nat} {F : gs_F} {M : gs_M} {v : gs_F} : gq_set (gw_Law cA a b (F, M)) [0, 1, 2, 3, 4, 5, 6, 7, 8, 9, 10, 11, 12, 13, 14, 15, 16, 17, 18, 19, 20, 21, 22, 23, 24, 25, 26, 27, 28, 29, 30, 31, 32, 33, 34, 35, 36, 37, 38, 39, 40, 41, 42] (gw_GF cA a v) = gw_Law cA a b (v, M) := rfl
theorem gl_Law_0_same {cA : ClassId} {a b : Nat → Nat} {F : gs_F} {M : gs_M} : gq_set (gw_Law cA a b (F, M)) [0, 1, 2, 3, 4, 5, 6, 7, 8, 9, 10, 11, 12, 13, 14, 15, 16, 17, 18, 19, 20, 21, 22, 23, 24, 25, 26, 27, 28, 29, 30, 31, 32, 33, 34, 35, 36, 37, 38, 39, 40, 41, 42] (gw_GF cA a F) = gw_Law cA a b (F, M) := rfl
theorem gl_Law_43_at {cA : ClassId} {a b : Nat → Nat} {F : gs_F} {M : gs_M} : ([43, 44, 45, 46, 47, 48, 49, 50, 51, 52, 53, 54, 55, 56, 57, 58, 59, 60, 61, 62, 63, 64, 65, 66] : List Nat).map (fun i => (gw_Law cA a b (F, M))[i]?) = (gw_M cA b M).map some := rfl
theorem gl_Law_43_nd : va_nd [43, 44, 45, 46, 47, 48, 49, 50, 51, 52, 53, 54, 55, 56, 57, 58, 59, 60, 61, 62, 63, 64, 65, 66] = true := by decide
theorem gl_Law_43_set {cA : ClassId} {a b : Nat → Nat} {F : gs_F} {M : gs_M} {v : gs_M} : gq_set (gw_Law cA a b (F, M)) [43, 44, 45, 46, 47, 48, 49, 50, 51, 52, 53, 54, 55, 56, 57, 58, 59, 60, 61, 62, 63, 64, 65, 66] (gw_M cA b v) = gw_Law cA a b (F, v) := rfl
theorem gl_Law_43_same {cA : ClassId} {a b : Nat → Nat} {F : gs_F} {M : gs_M} : gq_set (gw_Law cA a b (F, M)) [43, 44, 45, 46, 47, 48, 49, 50, 51, 52, 53, 54, 55, 56, 57, 58, 59, 60, 61, 62, 63, 64, 65, 66] (gw_M cA b M) = gw_Law cA a b (F, M) := rfl
section GQLAW
variable {p : Program} {l : Launch} {e : Env} {R : Room} {s : State} {m : MethodId} {args : Array Value} {below : List Frame} {meth : Method} {c : Code} {cells slots : Nat} {Z : State → Prop}
variable {cc : ByteArray} {pc nL : Nat} {st : List Value} {lv : List (Nat × Value)} {ws : va_W} {Ts : List Cond} {own : String} {ret : Option FieldType} {D : va_G} {cA : ClassId} {A : Nat → Prop}
theorem gq_slen (X : gq_X p s m args meth c cc nL Ts own ret D cA A) {q L : Nat} {xs : Nat → Int32} (hX : va_X q L xs s s.heap) (hbl : q < s.heap.size) (hbA : ¬ A q) (hdg : decode cc pc = .ok (.arraylength, 1)) (kk : gq_V p l e R s m args below meth c nL D A cells slots Z ws lv (pc + 1) (.int (nI L) :: st)) : gq_V p l e R s m args below meth c nL D A cells slots Z ws lv pc (.ref q :: st) := fun H locs ls hP hD hS hl => va_slen X.1 X.2.1 hX hbl hbA hS hdg (kk H locs ls hP hD hS hl)
theorem gq_sld (X : gq_X p s m args meth c cc nL Ts own ret D cA A) {q L : Nat} {xs : Nat → Int32} {i : Int32} (hX : va_X q L xs s s.heap) (hbl : q < s.heap.size) (hbA : ¬ A q) (hi : vp_in i L) (hdg : decode cc pc = .ok (.iaload, 1)) (kk : gq_V p l e R s m args below meth c nL D A cells slots Z ws lv (pc + 1) (.int (xs (gq_ix i)) :: st)) : gq_V p l e R s m args below meth c nL D A cells slots Z ws lv pc (.int i :: .ref q :: st) := fun H locs ls hP hD hS hl => va_sld X.1 X.2.1 hX hbl hbA hS hi hdg (kk H locs ls hP hD hS hl)
end GQLAW
theorem gq_lawret {p : Program} {l : Launch} {e : Env} {s : State} {m : MethodId} {below : List Frame} {meth : Method} {c : Code} {pc nL q : Nat} {lv : List (Nat × Value)} {ws : va_W} {Ts : List Cond} {own : String} {D : va_G} {cA : ClassId} (X : gq_X p s m #[Value.ref q] meth c code nL Ts own ret D cA (fun x : Nat => s.heap.size ≤ x)) (hdg : decode code pc = .ok (.ireturn, 1)) : gq_V p l e room_1 s m #[Value.ref q] below meth c nL D (fun x : Nat => s.heap.size ≤ x) 600000 7302250 (lw_Z below #[Value.ref q] s) ws lv pc [.int 1] :=
  fun H locs ls hP hD hS hl => va_forget (fun z hz => hS.2.2 z hz) (lw_ret X.1 X.2.1 X.2.2.2.2.2.1 X.2.2.2.2.2.2.1 hdg)
theorem lw_cmp0 (x : Int64) : lg_cmp x x = 0 := by simp [lg_cmp]
theorem lw_ge {L i : Nat} (hL : L ≤ 2560) (h : i < L / 5) : ¬ nI L - 5 < nI (5 * i) := by
  have h5 : nI L - 5 = nI (L - 5) := pk_sub (a := L) (b := 5) (by omega)
  rw [h5]
  exact nI_nlt (by omega) (by omega)
theorem lw_out {L i : Nat} (hL : L ≤ 2560) (h : L / 5 ≤ i) (hi : i ≤ L / 5) : nI L - 5 < nI (5 * i) := by
  rcases Nat.lt_or_ge L 5 with q | q
  · have e : i = 0 := by omega
    subst e
    have h1 : ∀ L, L < 5 → nI L - 5 < nI (5 * 0) := by decide +kernel
    exact h1 L q
  · have h5 : nI L - 5 = nI (L - 5) := pk_sub (a := L) (b := 5) q
    rw [h5]
    exact nI_lt (by omega) (by omega)
theorem lw_ix {L i j : Nat} {y : Int32} (hy : y = nI j) (hL : L ≤ 2560) (h : i < L / 5) (hj : j < 5) : vp_in (nI (5 * i) + y) L := by
  rw [hy, nI_add]
  exact vp_in_nI (by omega) (by omega)
/-- what the walks want of the two states -/
def LPw (F : gs_F) (M : gs_M) : Prop := mI M ∧ vp_in (k_X3_size (gF_prog F)) 61 ∧ vp_in (k_X0_stackSize (gF_core F)) 17 ∧ vp_in (k_X4_size (gF_queue F)) 9 ∧ vp_in (k_X2_size 4 (gF_gues F).2.2.2.2.2.2.1) 5
set_option maxHeartbeats 8000000 in
set_option maxRecDepth 200000 in
theorem law_loop {p : Program} {l : Launch} {e : Env} {s : State} {m : MethodId} {below : List Frame} {meth : Method} {c : Code} {D : va_G} {cA : ClassId} {q L : Nat} {xs : Nat → Int32} (Rel : Nat → gs_F → gs_M → Prop) (hs_act : ∀ (k : Nat) (F : gs_F) (M : gs_M) (x1 x2 x3 x4 : Int32), k < 512 → Rel k F M → (k_X6_act F x1 x2 x3 x4).1 = (k_X7_act M x1 x2 x3 x4).1 ∧ Rel (k + 1) (k_X6_act F x1 x2 x3 x4).2 (k_X7_act M x1 x2 x3 x4).2) (hs_wipe : ∀ (k : Nat) (F : gs_F) (M : gs_M), k < 512 → Rel k F M → (k_X6_wipe F).1 = (k_X7_wipe M).1 ∧ Rel (k + 1) (k_X6_wipe F).2 (k_X7_wipe M).2) (hs_put : ∀ (k : Nat) (F : gs_F) (M : gs_M) (x1 x2 : Int32), k < 512 → Rel k F M → (k_X6_put F x1 x2).1 = (k_X7_put M x1 x2).1 ∧ Rel (k + 1) (k_X6_put F x1 x2).2 (k_X7_put M x1 x2).2) (hs_way : ∀ (k : Nat) (F : gs_F) (M : gs_M) (x1 x2 : Int32), k < 512 → Rel k F M → (k_X6_way F x1 x2).1 = (k_X7_way M x1 x2).1 ∧ Rel (k + 1) (k_X6_way F x1 x2).2 (k_X7_way M x1 x2).2) (hs_begin : ∀ (k : Nat) (F : gs_F) (M : gs_M), k < 512 → Rel k F M → (k_X6_begin F).1 = (k_X7_begin M).1 ∧ Rel (k + 1) (k_X6_begin F).2 (k_X7_begin M).2) (hs_run : ∀ (k : Nat) (F : gs_F) (M : gs_M) (x1 : Int32), k < 512 → Rel k F M → (k_X7_in x1 1 5000 = true → ∀ i, i < gq_ix x1 → mg_runs (gq_wh mg_runs k_X7_cycle i M) = true → mC (gq_wh mg_runs k_X7_cycle i M)) ∧ (k_X6_run F x1).1 = (k_X7_run M x1).1 ∧ Rel (k + 1) (k_X6_run F x1).2 (k_X7_run M x1).2) (hs_stop : ∀ (k : Nat) (F : gs_F) (M : gs_M), k < 512 → Rel k F M → (k_X6_stop F).1 = (k_X7_stop M).1 ∧ Rel (k + 1) (k_X6_stop F).2 (k_X7_stop M).2) (hs_ended : ∀ (k : Nat) (F : gs_F) (M : gs_M), k < 512 → Rel k F M → k_X6_ended F = k_X7_ended M ∧ Rel (k + 1) F M) (hs_harm : ∀ (k : Nat) (F : gs_F) (M : gs_M) (x1 x2 x3 : Int32), k < 512 → Rel k F M → (k_X6_harm F x1 x2 x3).1 = (k_X7_harm M x1 x2 x3).1 ∧ Rel (k + 1) (k_X6_harm F x1 x2 x3).2 (k_X7_harm M x1 x2 x3).2) (hs_forget : ∀ (k : Nat) (F : gs_F) (M : gs_M), k < 512 → Rel k F M → (k_X6_forget F).1 = (k_X7_forget M).1 ∧ Rel (k + 1) (k_X6_forget F).2 (k_X7_forget M).2) (hs_table : ∀ (k : Nat) (F : gs_F) (M : gs_M) (x1 x2 : Int32), k < 512 → Rel k F M → k_X6_table F x1 x2 = k_X7_table M x1 x2 ∧ Rel (k + 1) F M) (hs_value : ∀ (k : Nat) (F : gs_F) (M : gs_M) (x1 : Int32), k < 512 → Rel k F M → k_X6_value F x1 = k_X7_value M x1 ∧ Rel (k + 1) F M) (hs_stack : ∀ (k : Nat) (F : gs_F) (M : gs_M) (x1 : Int32), k < 512 → Rel k F M → k_X6_stack F x1 = k_X7_stack M x1 ∧ Rel (k + 1) F M) (hs_done : ∀ (k : Nat) (F : gs_F) (M : gs_M) (x1 : Int32), k < 512 → Rel k F M → k_X6_done F x1 = k_X7_done M x1 ∧ Rel (k + 1) F M) (hs_fetched : ∀ (k : Nat) (F : gs_F) (M : gs_M) (x1 : Int32), k < 512 → Rel k F M → k_X6_fetched F x1 = k_X7_fetched M x1 ∧ Rel (k + 1) F M) (hs_known : ∀ (k : Nat) (F : gs_F) (M : gs_M), k < 512 → Rel k F M → k_X6_known F = k_X7_known M ∧ Rel (k + 1) F M) (hs_told : ∀ (k : Nat) (F : gs_F) (M : gs_M) (x1 x2 : Int32), k < 512 → Rel k F M → k_X6_told F x1 x2 = k_X7_told M x1 x2 ∧ Rel (k + 1) F M) (hs_count : ∀ (k : Nat) (F : gs_F) (M : gs_M) (x1 : Int32), k < 512 → Rel k F M → k_X6_count F x1 = k_X7_count M x1 ∧ Rel (k + 1) F M) (hs_digest : ∀ (k : Nat) (F : gs_F) (M : gs_M), k < 512 → Rel k F M → k_X6_digest F = (k_X7_digest M).1 ∧ Rel (k + 1) F (k_X7_digest M).2) (hs_none : ∀ (k : Nat) (F : gs_F) (M : gs_M), k < 512 → Rel k F M → Rel (k + 1) F M) (hs_p : ∀ (k : Nat) (F : gs_F) (M : gs_M), Rel k F M → LPw F M)
    (hL : L ≤ 2560) (X : gq_X p s m #[Value.ref q] meth c code 4 wsL_law RL ret D cA (fun x : Nat => s.heap.size ≤ x)) (hX : va_X q L xs s s.heap) (hbl : q < s.heap.size) (a b : Nat → Nat) (F0 : gs_F) (M0 : gs_M) (h0 : Rel 0 F0 M0) :
    gq_V p l e room_1 s m #[Value.ref q] below meth c 4 D (fun x : Nat => s.heap.size ≤ x) 600000 7302250 (lw_Z below #[Value.ref q] s) (gw_Law cA a b (F0, M0)) [(3, .int (nI (5 * 0))), (2, .ref (b 0)), (1, .ref (a 0)), (0, .ref q)] 18 [] := by
  have hbA : ¬ (fun x : Nat => s.heap.size ≤ x) q := Nat.not_le.mpr hbl
  refine gq_loopS (N := L / 5) (i0 := 0) (fun i (t : gs_F × gs_M) => Rel i t.1 t.2) (fun t => gw_Law cA a b t) (fun i => [(3, .int (nI (5 * i))), (2, .ref (b 0)), (1, .ref (a 0)), (0, .ref q)]) (Nat.zero_le _) (F0, M0) h0 (fun i t hi _ hI ih => ?_)
  obtain ⟨F, M⟩ := t
  have hI : Rel i F M := hI
  refine gq_iload_n X dL_law_18 0 rfl ?_
  refine gq_aload_n X dL_law_19 3 rfl ?_
  refine gq_slen X hX hbl hbA dL_law_20 ?_
  refine gq_iconst (v := 5) X dL_law_21 gq_i5 ?_
  refine gq_isub X dL_law_22 ?_
  rcases Nat.lt_or_ge i (L / 5) with hlt | hge
  · have hk : i < 512 := by omega
    refine gq_icmp_gt (tgt := 590) X dL_law_23 (by decide) (fun h => absurd h (lw_ge hL hlt)) (fun _ => ?_)
    refine gq_aload_n X dL_law_26 3 rfl ?_
    refine gq_iload_n X dL_law_27 0 rfl ?_
    refine gq_sld X hX hbl hbA (vp_in_nI (by omega) (by omega)) dL_law_28 ?_
    refine gq_bipush (v := 31) X dL_law_29 (by decide) ?_
    refine gq_iand X dL_law_31 ?_
    rcases Classical.em ((xs (gq_ix (nI (5 * i)))) &&& 31 = 0) with h32_0 | h32_0
    · refine gq_tin (k := 0) (off := 92) (tgt := 124) X dL_law_32 h32_0 (by decide) (by decide) (by decide) (by decide) ?_
      refine gq_aload_n X dL_law_124 2 rfl ?_
      refine gq_aload_n X dL_law_125 3 rfl ?_
      refine gq_iload_n X dL_law_126 0 rfl ?_
      refine gq_iconst (v := 1) X dL_law_127 gq_i1 ?_
      refine gq_iadd X dL_law_128 ?_
      refine gq_sld X hX hbl hbA (lw_ix (j := 1) (by decide) hL hlt (by decide)) dL_law_129 ?_
      refine gq_aload_n X dL_law_130 3 rfl ?_
      refine gq_iload_n X dL_law_131 0 rfl ?_
      refine gq_iconst (v := 2) X dL_law_132 gq_i2 ?_
      refine gq_iadd X dL_law_133 ?_
      refine gq_sld X hX hbl hbA (lw_ix (j := 2) (by decide) hL hlt (by decide)) dL_law_134 ?_
      refine gq_aload_n X dL_law_135 3 rfl ?_
      refine gq_iload_n X dL_law_136 0 rfl ?_
      refine gq_iconst (v := 3) X dL_law_137 gq_i3 ?_
      refine gq_iadd X dL_law_138 ?_
      refine gq_sld X hX hbl hbA (lw_ix (j := 3) (by decide) hL hlt (by decide)) dL_law_139 ?_
      refine gq_aload_n X dL_law_140 3 rfl ?_
      refine gq_iload_n X dL_law_141 0 rfl ?_
      refine gq_iconst (v := 4) X dL_law_142 gq_i4 ?_
      refine gq_iadd X dL_law_143 ?_
      refine gq_sld X hX hbl hbA (lw_ix (j := 4) (by decide) hL hlt (by decide)) dL_law_144 ?_
      obtain ⟨r1, er1⟩ : ∃ y, y = k_X6_act F (xs (gq_ix ((nI (5 * i)) + 1))) (xs (gq_ix ((nI (5 * i)) + 2))) (xs (gq_ix ((nI (5 * i)) + 3))) (xs (gq_ix ((nI (5 * i)) + 4))) := ⟨_, rfl⟩
      refine gq_callVr (ws' := gw_Law cA a b (r1.2, M)) X (gq_Ceq (res2 := some (Value.int r1.1)) (w2 := gw_GF cA a r1.2) (c_X6_act l D cA a F (xs (gq_ix ((nI (5 * i)) + 1))) (xs (gq_ix ((nI (5 * i)) + 2))) (xs (gq_ix ((nI (5 * i)) + 3))) (xs (gq_ix ((nI (5 * i)) + 4)))) (by rw [er1]) (by rw [er1])) rfl ⟨rfl, rfl⟩ ⟨Nat.le_of_ble_eq_true rfl, Nat.le_of_ble_eq_true rfl⟩ gL_law_X6_act hv_X6_act 0 rfl rfl [0, 1, 2, 3, 4, 5, 6, 7, 8, 9, 10, 11, 12, 13, 14, 15, 16, 17, 18, 19, 20, 21, 22, 23, 24, 25, 26, 27, 28, 29, 30, 31, 32, 33, 34, 35, 36, 37, 38, 39, 40, 41, 42] gl_Law_0_at gl_Law_0_nd gl_GF_fst gl_Law_0_set rfl rfl (Nat.le_of_ble_eq_true rfl) ⟨Nat.le_refl _, Nat.le_refl _⟩ dL_law_145 ?_
      refine gq_aload_n X dL_law_148 1 rfl ?_
      refine gq_aload_n X dL_law_149 3 rfl ?_
      refine gq_iload_n X dL_law_150 0 rfl ?_
      refine gq_iconst (v := 1) X dL_law_151 gq_i1 ?_
      refine gq_iadd X dL_law_152 ?_
      refine gq_sld X hX hbl hbA (lw_ix (j := 1) (by decide) hL hlt (by decide)) dL_law_153 ?_
      refine gq_aload_n X dL_law_154 3 rfl ?_
      refine gq_iload_n X dL_law_155 0 rfl ?_
      refine gq_iconst (v := 2) X dL_law_156 gq_i2 ?_
      refine gq_iadd X dL_law_157 ?_
      refine gq_sld X hX hbl hbA (lw_ix (j := 2) (by decide) hL hlt (by decide)) dL_law_158 ?_
      refine gq_aload_n X dL_law_159 3 rfl ?_
      refine gq_iload_n X dL_law_160 0 rfl ?_
      refine gq_iconst (v := 3) X dL_law_161 gq_i3 ?_
      refine gq_iadd X dL_law_162 ?_
      refine gq_sld X hX hbl hbA (lw_ix (j := 3) (by decide) hL hlt (by decide)) dL_law_163 ?_
      refine gq_aload_n X dL_law_164 3 rfl ?_
      refine gq_iload_n X dL_law_165 0 rfl ?_
      refine gq_iconst (v := 4) X dL_law_166 gq_i4 ?_
      refine gq_iadd X dL_law_167 ?_
      refine gq_sld X hX hbl hbA (lw_ix (j := 4) (by decide) hL hlt (by decide)) dL_law_168 ?_
      obtain ⟨r2, er2⟩ : ∃ y, y = k_X7_act M (xs (gq_ix ((nI (5 * i)) + 1))) (xs (gq_ix ((nI (5 * i)) + 2))) (xs (gq_ix ((nI (5 * i)) + 3))) (xs (gq_ix ((nI (5 * i)) + 4))) := ⟨_, rfl⟩
      refine gq_callVr (ws' := gw_Law cA a b (r1.2, r2.2)) X (gq_Ceq (res2 := some (Value.int r2.1)) (w2 := gw_M cA b r2.2) (c_X7_act l D cA b M (xs (gq_ix ((nI (5 * i)) + 1))) (xs (gq_ix ((nI (5 * i)) + 2))) (xs (gq_ix ((nI (5 * i)) + 3))) (xs (gq_ix ((nI (5 * i)) + 4))) (hs_p i F M hI).1.1.1) (by rw [er2]) (by rw [er2])) rfl ⟨rfl, rfl⟩ ⟨Nat.le_of_ble_eq_true rfl, Nat.le_of_ble_eq_true rfl⟩ gL_law_X7_act hv_X7_act 43 rfl rfl [43, 44, 45, 46, 47, 48, 49, 50, 51, 52, 53, 54, 55, 56, 57, 58, 59, 60, 61, 62, 63, 64, 65, 66] gl_Law_43_at gl_Law_43_nd gl_M_fst gl_Law_43_set rfl rfl (Nat.le_of_ble_eq_true rfl) ⟨Nat.le_refl _, Nat.le_refl _⟩ dL_law_169 ?_
      refine gq_icmp_eq (tgt := 584) X dL_law_172 (by decide) (fun _ => ?_) (fun h => absurd (by rw [er1, er2]; exact (hs_act i F M (xs (gq_ix ((nI (5 * i)) + 1))) (xs (gq_ix ((nI (5 * i)) + 2))) (xs (gq_ix ((nI (5 * i)) + 3))) (xs (gq_ix ((nI (5 * i)) + 4))) hk hI).1) h)
      refine gq_iinc (lv' := [(3, .int (nI (5 * (i + 1)))), (2, .ref (b 0)), (1, .ref (a 0)), (0, .ref q)]) X dL_law_584 0 rfl (by rw [show 5 * (i + 1) = 5 * i + 5 by omega]; exact nI_add (5 * i) 5) (by decide) rfl ?_
      refine gq_goto (tgt := 18) X dL_law_587 (by decide) ?_
      exact ih (r1.2, r2.2) hlt (by rw [er1, er2]; exact (hs_act i F M (xs (gq_ix ((nI (5 * i)) + 1))) (xs (gq_ix ((nI (5 * i)) + 2))) (xs (gq_ix ((nI (5 * i)) + 3))) (xs (gq_ix ((nI (5 * i)) + 4))) hk hI).2)
    · rcases Classical.em ((xs (gq_ix (nI (5 * i)))) &&& 31 = 1) with h32_1 | h32_1
      · refine gq_tin (k := 1) (off := 145) (tgt := 177) X dL_law_32 h32_1 (by decide) (by decide) (by decide) (by decide) ?_
        refine gq_aload_n X dL_law_177 2 rfl ?_
        obtain ⟨r3, er3⟩ : ∃ y, y = k_X6_wipe F := ⟨_, rfl⟩
        refine gq_callVr (ws' := gw_Law cA a b (r3.2, M)) X (gq_Ceq (res2 := some (Value.int r3.1)) (w2 := gw_GF cA a r3.2) (c_X6_wipe l D cA a F) (by rw [er3]) (by rw [er3])) rfl ⟨rfl, rfl⟩ ⟨Nat.le_of_ble_eq_true rfl, Nat.le_of_ble_eq_true rfl⟩ gL_law_X6_wipe hv_X6_wipe 0 rfl rfl [0, 1, 2, 3, 4, 5, 6, 7, 8, 9, 10, 11, 12, 13, 14, 15, 16, 17, 18, 19, 20, 21, 22, 23, 24, 25, 26, 27, 28, 29, 30, 31, 32, 33, 34, 35, 36, 37, 38, 39, 40, 41, 42] gl_Law_0_at gl_Law_0_nd gl_GF_fst gl_Law_0_set rfl rfl (Nat.le_of_ble_eq_true rfl) ⟨Nat.le_refl _, Nat.le_refl _⟩ dL_law_178 ?_
        refine gq_aload_n X dL_law_181 1 rfl ?_
        obtain ⟨r4, er4⟩ : ∃ y, y = k_X7_wipe M := ⟨_, rfl⟩
        refine gq_callVr (ws' := gw_Law cA a b (r3.2, r4.2)) X (gq_Ceq (res2 := some (Value.int r4.1)) (w2 := gw_M cA b r4.2) (c_X7_wipe l D cA b M) (by rw [er4]) (by rw [er4])) rfl ⟨rfl, rfl⟩ ⟨Nat.le_of_ble_eq_true rfl, Nat.le_of_ble_eq_true rfl⟩ gL_law_X7_wipe hv_X7_wipe 43 rfl rfl [43, 44, 45, 46, 47, 48, 49, 50, 51, 52, 53, 54, 55, 56, 57, 58, 59, 60, 61, 62, 63, 64, 65, 66] gl_Law_43_at gl_Law_43_nd gl_M_fst gl_Law_43_set rfl rfl (Nat.le_of_ble_eq_true rfl) ⟨Nat.le_refl _, Nat.le_refl _⟩ dL_law_182 ?_
        refine gq_icmp_eq (tgt := 584) X dL_law_185 (by decide) (fun _ => ?_) (fun h => absurd (by rw [er3, er4]; exact (hs_wipe i F M hk hI).1) h)
        refine gq_iinc (lv' := [(3, .int (nI (5 * (i + 1)))), (2, .ref (b 0)), (1, .ref (a 0)), (0, .ref q)]) X dL_law_584 0 rfl (by rw [show 5 * (i + 1) = 5 * i + 5 by omega]; exact nI_add (5 * i) 5) (by decide) rfl ?_
        refine gq_goto (tgt := 18) X dL_law_587 (by decide) ?_
        exact ih (r3.2, r4.2) hlt (by rw [er3, er4]; exact (hs_wipe i F M hk hI).2)
      · rcases Classical.em ((xs (gq_ix (nI (5 * i)))) &&& 31 = 2) with h32_2 | h32_2
        · refine gq_tin (k := 2) (off := 158) (tgt := 190) X dL_law_32 h32_2 (by decide) (by decide) (by decide) (by decide) ?_
          refine gq_aload_n X dL_law_190 2 rfl ?_
          refine gq_aload_n X dL_law_191 3 rfl ?_
          refine gq_iload_n X dL_law_192 0 rfl ?_
          refine gq_iconst (v := 1) X dL_law_193 gq_i1 ?_
          refine gq_iadd X dL_law_194 ?_
          refine gq_sld X hX hbl hbA (lw_ix (j := 1) (by decide) hL hlt (by decide)) dL_law_195 ?_
          refine gq_aload_n X dL_law_196 3 rfl ?_
          refine gq_iload_n X dL_law_197 0 rfl ?_
          refine gq_iconst (v := 2) X dL_law_198 gq_i2 ?_
          refine gq_iadd X dL_law_199 ?_
          refine gq_sld X hX hbl hbA (lw_ix (j := 2) (by decide) hL hlt (by decide)) dL_law_200 ?_
          obtain ⟨r5, er5⟩ : ∃ y, y = k_X6_put F (xs (gq_ix ((nI (5 * i)) + 1))) (xs (gq_ix ((nI (5 * i)) + 2))) := ⟨_, rfl⟩
          refine gq_callVr (ws' := gw_Law cA a b (r5.2, M)) X (gq_Ceq (res2 := some (Value.long r5.1)) (w2 := gw_GF cA a r5.2) (c_X6_put l D cA a F (xs (gq_ix ((nI (5 * i)) + 1))) (xs (gq_ix ((nI (5 * i)) + 2)))) (by rw [er5]) (by rw [er5])) rfl ⟨rfl, rfl⟩ ⟨Nat.le_of_ble_eq_true rfl, Nat.le_of_ble_eq_true rfl⟩ gL_law_X6_put hv_X6_put 0 rfl rfl [0, 1, 2, 3, 4, 5, 6, 7, 8, 9, 10, 11, 12, 13, 14, 15, 16, 17, 18, 19, 20, 21, 22, 23, 24, 25, 26, 27, 28, 29, 30, 31, 32, 33, 34, 35, 36, 37, 38, 39, 40, 41, 42] gl_Law_0_at gl_Law_0_nd gl_GF_fst gl_Law_0_set rfl rfl (Nat.le_of_ble_eq_true rfl) ⟨Nat.le_refl _, Nat.le_refl _⟩ dL_law_201 ?_
          refine gq_aload_n X dL_law_204 1 rfl ?_
          refine gq_aload_n X dL_law_205 3 rfl ?_
          refine gq_iload_n X dL_law_206 0 rfl ?_
          refine gq_iconst (v := 1) X dL_law_207 gq_i1 ?_
          refine gq_iadd X dL_law_208 ?_
          refine gq_sld X hX hbl hbA (lw_ix (j := 1) (by decide) hL hlt (by decide)) dL_law_209 ?_
          refine gq_aload_n X dL_law_210 3 rfl ?_
          refine gq_iload_n X dL_law_211 0 rfl ?_
          refine gq_iconst (v := 2) X dL_law_212 gq_i2 ?_
          refine gq_iadd X dL_law_213 ?_
          refine gq_sld X hX hbl hbA (lw_ix (j := 2) (by decide) hL hlt (by decide)) dL_law_214 ?_
          obtain ⟨r6, er6⟩ : ∃ y, y = k_X7_put M (xs (gq_ix ((nI (5 * i)) + 1))) (xs (gq_ix ((nI (5 * i)) + 2))) := ⟨_, rfl⟩
          refine gq_callVr (ws' := gw_Law cA a b (r5.2, r6.2)) X (gq_Ceq (res2 := some (Value.long r6.1)) (w2 := gw_M cA b r6.2) (c_X7_put l D cA b M (xs (gq_ix ((nI (5 * i)) + 1))) (xs (gq_ix ((nI (5 * i)) + 2)))) (by rw [er6]) (by rw [er6])) rfl ⟨rfl, rfl⟩ ⟨Nat.le_of_ble_eq_true rfl, Nat.le_of_ble_eq_true rfl⟩ gL_law_X7_put hv_X7_put 43 rfl rfl [43, 44, 45, 46, 47, 48, 49, 50, 51, 52, 53, 54, 55, 56, 57, 58, 59, 60, 61, 62, 63, 64, 65, 66] gl_Law_43_at gl_Law_43_nd gl_M_fst gl_Law_43_set rfl rfl (Nat.le_of_ble_eq_true rfl) ⟨Nat.le_refl _, Nat.le_refl _⟩ dL_law_215 ?_
          refine gq_lcmp X dL_law_218 ?_
          refine gq_if_eq (tgt := 584) X dL_law_219 (by decide) (fun _ => ?_) (fun h => absurd (by rw [show r5.1 = r6.1 from (by rw [er5, er6]; exact (hs_put i F M (xs (gq_ix ((nI (5 * i)) + 1))) (xs (gq_ix ((nI (5 * i)) + 2))) hk hI).1)]; exact lw_cmp0 _) h)
          refine gq_iinc (lv' := [(3, .int (nI (5 * (i + 1)))), (2, .ref (b 0)), (1, .ref (a 0)), (0, .ref q)]) X dL_law_584 0 rfl (by rw [show 5 * (i + 1) = 5 * i + 5 by omega]; exact nI_add (5 * i) 5) (by decide) rfl ?_
          refine gq_goto (tgt := 18) X dL_law_587 (by decide) ?_
          exact ih (r5.2, r6.2) hlt (by rw [er5, er6]; exact (hs_put i F M (xs (gq_ix ((nI (5 * i)) + 1))) (xs (gq_ix ((nI (5 * i)) + 2))) hk hI).2)
        · rcases Classical.em ((xs (gq_ix (nI (5 * i)))) &&& 31 = 3) with h32_3 | h32_3
          · refine gq_tin (k := 3) (off := 192) (tgt := 224) X dL_law_32 h32_3 (by decide) (by decide) (by decide) (by decide) ?_
            refine gq_aload_n X dL_law_224 2 rfl ?_
            refine gq_aload_n X dL_law_225 3 rfl ?_
            refine gq_iload_n X dL_law_226 0 rfl ?_
            refine gq_iconst (v := 1) X dL_law_227 gq_i1 ?_
            refine gq_iadd X dL_law_228 ?_
            refine gq_sld X hX hbl hbA (lw_ix (j := 1) (by decide) hL hlt (by decide)) dL_law_229 ?_
            refine gq_aload_n X dL_law_230 3 rfl ?_
            refine gq_iload_n X dL_law_231 0 rfl ?_
            refine gq_iconst (v := 2) X dL_law_232 gq_i2 ?_
            refine gq_iadd X dL_law_233 ?_
            refine gq_sld X hX hbl hbA (lw_ix (j := 2) (by decide) hL hlt (by decide)) dL_law_234 ?_
            obtain ⟨r7, er7⟩ : ∃ y, y = k_X6_way F (xs (gq_ix ((nI (5 * i)) + 1))) (xs (gq_ix ((nI (5 * i)) + 2))) := ⟨_, rfl⟩
            refine gq_callVr (ws' := gw_Law cA a b (r7.2, M)) X (gq_Ceq (res2 := some (Value.int r7.1)) (w2 := gw_GF cA a r7.2) (c_X6_way l D cA a F (xs (gq_ix ((nI (5 * i)) + 1))) (xs (gq_ix ((nI (5 * i)) + 2)))) (by rw [er7]) (by rw [er7])) rfl ⟨rfl, rfl⟩ ⟨Nat.le_of_ble_eq_true rfl, Nat.le_of_ble_eq_true rfl⟩ gL_law_X6_way hv_X6_way 0 rfl rfl [0, 1, 2, 3, 4, 5, 6, 7, 8, 9, 10, 11, 12, 13, 14, 15, 16, 17, 18, 19, 20, 21, 22, 23, 24, 25, 26, 27, 28, 29, 30, 31, 32, 33, 34, 35, 36, 37, 38, 39, 40, 41, 42] gl_Law_0_at gl_Law_0_nd gl_GF_fst gl_Law_0_set rfl rfl (Nat.le_of_ble_eq_true rfl) ⟨Nat.le_refl _, Nat.le_refl _⟩ dL_law_235 ?_
            refine gq_aload_n X dL_law_238 1 rfl ?_
            refine gq_aload_n X dL_law_239 3 rfl ?_
            refine gq_iload_n X dL_law_240 0 rfl ?_
            refine gq_iconst (v := 1) X dL_law_241 gq_i1 ?_
            refine gq_iadd X dL_law_242 ?_
            refine gq_sld X hX hbl hbA (lw_ix (j := 1) (by decide) hL hlt (by decide)) dL_law_243 ?_
            refine gq_aload_n X dL_law_244 3 rfl ?_
            refine gq_iload_n X dL_law_245 0 rfl ?_
            refine gq_iconst (v := 2) X dL_law_246 gq_i2 ?_
            refine gq_iadd X dL_law_247 ?_
            refine gq_sld X hX hbl hbA (lw_ix (j := 2) (by decide) hL hlt (by decide)) dL_law_248 ?_
            obtain ⟨r8, er8⟩ : ∃ y, y = k_X7_way M (xs (gq_ix ((nI (5 * i)) + 1))) (xs (gq_ix ((nI (5 * i)) + 2))) := ⟨_, rfl⟩
            refine gq_callVr (ws' := gw_Law cA a b (r7.2, r8.2)) X (gq_Ceq (res2 := some (Value.int r8.1)) (w2 := gw_M cA b r8.2) (c_X7_way l D cA b M (xs (gq_ix ((nI (5 * i)) + 1))) (xs (gq_ix ((nI (5 * i)) + 2)))) (by rw [er8]) (by rw [er8])) rfl ⟨rfl, rfl⟩ ⟨Nat.le_of_ble_eq_true rfl, Nat.le_of_ble_eq_true rfl⟩ gL_law_X7_way hv_X7_way 43 rfl rfl [43, 44, 45, 46, 47, 48, 49, 50, 51, 52, 53, 54, 55, 56, 57, 58, 59, 60, 61, 62, 63, 64, 65, 66] gl_Law_43_at gl_Law_43_nd gl_M_fst gl_Law_43_set rfl rfl (Nat.le_of_ble_eq_true rfl) ⟨Nat.le_refl _, Nat.le_refl _⟩ dL_law_249 ?_
            refine gq_icmp_eq (tgt := 584) X dL_law_252 (by decide) (fun _ => ?_) (fun h => absurd (by rw [er7, er8]; exact (hs_way i F M (xs (gq_ix ((nI (5 * i)) + 1))) (xs (gq_ix ((nI (5 * i)) + 2))) hk hI).1) h)
            refine gq_iinc (lv' := [(3, .int (nI (5 * (i + 1)))), (2, .ref (b 0)), (1, .ref (a 0)), (0, .ref q)]) X dL_law_584 0 rfl (by rw [show 5 * (i + 1) = 5 * i + 5 by omega]; exact nI_add (5 * i) 5) (by decide) rfl ?_
            refine gq_goto (tgt := 18) X dL_law_587 (by decide) ?_
            exact ih (r7.2, r8.2) hlt (by rw [er7, er8]; exact (hs_way i F M (xs (gq_ix ((nI (5 * i)) + 1))) (xs (gq_ix ((nI (5 * i)) + 2))) hk hI).2)
          · rcases Classical.em ((xs (gq_ix (nI (5 * i)))) &&& 31 = 4) with h32_4 | h32_4
            · refine gq_tin (k := 4) (off := 225) (tgt := 257) X dL_law_32 h32_4 (by decide) (by decide) (by decide) (by decide) ?_
              refine gq_aload_n X dL_law_257 2 rfl ?_
              obtain ⟨r9, er9⟩ : ∃ y, y = k_X6_begin F := ⟨_, rfl⟩
              refine gq_callVr (ws' := gw_Law cA a b (r9.2, M)) X (gq_Ceq (res2 := some (Value.int r9.1)) (w2 := gw_GF cA a r9.2) (c_X6_begin l D cA a F) (by rw [er9]) (by rw [er9])) rfl ⟨rfl, rfl⟩ ⟨Nat.le_of_ble_eq_true rfl, Nat.le_of_ble_eq_true rfl⟩ gL_law_X6_begin hv_X6_begin 0 rfl rfl [0, 1, 2, 3, 4, 5, 6, 7, 8, 9, 10, 11, 12, 13, 14, 15, 16, 17, 18, 19, 20, 21, 22, 23, 24, 25, 26, 27, 28, 29, 30, 31, 32, 33, 34, 35, 36, 37, 38, 39, 40, 41, 42] gl_Law_0_at gl_Law_0_nd gl_GF_fst gl_Law_0_set rfl rfl (Nat.le_of_ble_eq_true rfl) ⟨Nat.le_refl _, Nat.le_refl _⟩ dL_law_258 ?_
              refine gq_aload_n X dL_law_261 1 rfl ?_
              obtain ⟨r10, er10⟩ : ∃ y, y = k_X7_begin M := ⟨_, rfl⟩
              refine gq_callVr (ws' := gw_Law cA a b (r9.2, r10.2)) X (gq_Ceq (res2 := some (Value.int r10.1)) (w2 := gw_M cA b r10.2) (c_X7_begin l D cA b M) (by rw [er10]) (by rw [er10])) rfl ⟨rfl, rfl⟩ ⟨Nat.le_of_ble_eq_true rfl, Nat.le_of_ble_eq_true rfl⟩ gL_law_X7_begin hv_X7_begin 43 rfl rfl [43, 44, 45, 46, 47, 48, 49, 50, 51, 52, 53, 54, 55, 56, 57, 58, 59, 60, 61, 62, 63, 64, 65, 66] gl_Law_43_at gl_Law_43_nd gl_M_fst gl_Law_43_set rfl rfl (Nat.le_of_ble_eq_true rfl) ⟨Nat.le_refl _, Nat.le_refl _⟩ dL_law_262 ?_
              refine gq_icmp_eq (tgt := 584) X dL_law_265 (by decide) (fun _ => ?_) (fun h => absurd (by rw [er9, er10]; exact (hs_begin i F M hk hI).1) h)
              refine gq_iinc (lv' := [(3, .int (nI (5 * (i + 1)))), (2, .ref (b 0)), (1, .ref (a 0)), (0, .ref q)]) X dL_law_584 0 rfl (by rw [show 5 * (i + 1) = 5 * i + 5 by omega]; exact nI_add (5 * i) 5) (by decide) rfl ?_
              refine gq_goto (tgt := 18) X dL_law_587 (by decide) ?_
              exact ih (r9.2, r10.2) hlt (by rw [er9, er10]; exact (hs_begin i F M hk hI).2)
            · rcases Classical.em ((xs (gq_ix (nI (5 * i)))) &&& 31 = 5) with h32_5 | h32_5
              · refine gq_tin (k := 5) (off := 238) (tgt := 270) X dL_law_32 h32_5 (by decide) (by decide) (by decide) (by decide) ?_
                refine gq_aload_n X dL_law_270 2 rfl ?_
                refine gq_aload_n X dL_law_271 3 rfl ?_
                refine gq_iload_n X dL_law_272 0 rfl ?_
                refine gq_iconst (v := 1) X dL_law_273 gq_i1 ?_
                refine gq_iadd X dL_law_274 ?_
                refine gq_sld X hX hbl hbA (lw_ix (j := 1) (by decide) hL hlt (by decide)) dL_law_275 ?_
                obtain ⟨r11, er11⟩ : ∃ y, y = k_X6_run F (xs (gq_ix ((nI (5 * i)) + 1))) := ⟨_, rfl⟩
                refine gq_callVr (ws' := gw_Law cA a b (r11.2, M)) X (gq_Ceq (res2 := some (Value.int r11.1)) (w2 := gw_GF cA a r11.2) (c_X6_run l D cA a F (xs (gq_ix ((nI (5 * i)) + 1)))) (by rw [er11]) (by rw [er11])) rfl ⟨rfl, rfl⟩ ⟨Nat.le_of_ble_eq_true rfl, Nat.le_of_ble_eq_true rfl⟩ gL_law_X6_run hv_X6_run 0 rfl rfl [0, 1, 2, 3, 4, 5, 6, 7, 8, 9, 10, 11, 12, 13, 14, 15, 16, 17, 18, 19, 20, 21, 22, 23, 24, 25, 26, 27, 28, 29, 30, 31, 32, 33, 34, 35, 36, 37, 38, 39, 40, 41, 42] gl_Law_0_at gl_Law_0_nd gl_GF_fst gl_Law_0_set rfl rfl (Nat.le_of_ble_eq_true rfl) ⟨Nat.le_refl _, Nat.le_refl _⟩ dL_law_276 ?_
                refine gq_aload_n X dL_law_279 1 rfl ?_
                refine gq_aload_n X dL_law_280 3 rfl ?_
                refine gq_iload_n X dL_law_281 0 rfl ?_
                refine gq_iconst (v := 1) X dL_law_282 gq_i1 ?_
                refine gq_iadd X dL_law_283 ?_
                refine gq_sld X hX hbl hbA (lw_ix (j := 1) (by decide) hL hlt (by decide)) dL_law_284 ?_
                obtain ⟨r12, er12⟩ : ∃ y, y = k_X7_run M (xs (gq_ix ((nI (5 * i)) + 1))) := ⟨_, rfl⟩
                refine gq_callVr (ws' := gw_Law cA a b (r11.2, r12.2)) X (gq_Ceq (res2 := some (Value.int r12.1)) (w2 := gw_M cA b r12.2) (c_X7_run2 l D cA b M (xs (gq_ix ((nI (5 * i)) + 1))) (hs_run i F M (xs (gq_ix ((nI (5 * i)) + 1))) hk hI).1) (by rw [er12]) (by rw [er12])) rfl ⟨rfl, rfl⟩ ⟨Nat.le_of_ble_eq_true rfl, Nat.le_of_ble_eq_true rfl⟩ gL_law_X7_run hv_X7_run 43 rfl rfl [43, 44, 45, 46, 47, 48, 49, 50, 51, 52, 53, 54, 55, 56, 57, 58, 59, 60, 61, 62, 63, 64, 65, 66] gl_Law_43_at gl_Law_43_nd gl_M_fst gl_Law_43_set rfl rfl (Nat.le_of_ble_eq_true rfl) ⟨Nat.le_refl _, Nat.le_refl _⟩ dL_law_285 ?_
                refine gq_icmp_eq (tgt := 584) X dL_law_288 (by decide) (fun _ => ?_) (fun h => absurd (by rw [er11, er12]; exact (hs_run i F M (xs (gq_ix ((nI (5 * i)) + 1))) hk hI).2.1) h)
                refine gq_iinc (lv' := [(3, .int (nI (5 * (i + 1)))), (2, .ref (b 0)), (1, .ref (a 0)), (0, .ref q)]) X dL_law_584 0 rfl (by rw [show 5 * (i + 1) = 5 * i + 5 by omega]; exact nI_add (5 * i) 5) (by decide) rfl ?_
                refine gq_goto (tgt := 18) X dL_law_587 (by decide) ?_
                exact ih (r11.2, r12.2) hlt (by rw [er11, er12]; exact (hs_run i F M (xs (gq_ix ((nI (5 * i)) + 1))) hk hI).2.2)
              · rcases Classical.em ((xs (gq_ix (nI (5 * i)))) &&& 31 = 6) with h32_6 | h32_6
                · refine gq_tin (k := 6) (off := 261) (tgt := 293) X dL_law_32 h32_6 (by decide) (by decide) (by decide) (by decide) ?_
                  refine gq_aload_n X dL_law_293 2 rfl ?_
                  obtain ⟨r13, er13⟩ : ∃ y, y = k_X6_stop F := ⟨_, rfl⟩
                  refine gq_callVr (ws' := gw_Law cA a b (r13.2, M)) X (gq_Ceq (res2 := some (Value.int r13.1)) (w2 := gw_GF cA a r13.2) (c_X6_stop l D cA a F) (by rw [er13]) (by rw [er13])) rfl ⟨rfl, rfl⟩ ⟨Nat.le_of_ble_eq_true rfl, Nat.le_of_ble_eq_true rfl⟩ gL_law_X6_stop hv_X6_stop 0 rfl rfl [0, 1, 2, 3, 4, 5, 6, 7, 8, 9, 10, 11, 12, 13, 14, 15, 16, 17, 18, 19, 20, 21, 22, 23, 24, 25, 26, 27, 28, 29, 30, 31, 32, 33, 34, 35, 36, 37, 38, 39, 40, 41, 42] gl_Law_0_at gl_Law_0_nd gl_GF_fst gl_Law_0_set rfl rfl (Nat.le_of_ble_eq_true rfl) ⟨Nat.le_refl _, Nat.le_refl _⟩ dL_law_294 ?_
                  refine gq_aload_n X dL_law_297 1 rfl ?_
                  obtain ⟨r14, er14⟩ : ∃ y, y = k_X7_stop M := ⟨_, rfl⟩
                  refine gq_callVr (ws' := gw_Law cA a b (r13.2, r14.2)) X (gq_Ceq (res2 := some (Value.int r14.1)) (w2 := gw_M cA b r14.2) (c_X7_stop l D cA b M) (by rw [er14]) (by rw [er14])) rfl ⟨rfl, rfl⟩ ⟨Nat.le_of_ble_eq_true rfl, Nat.le_of_ble_eq_true rfl⟩ gL_law_X7_stop hv_X7_stop 43 rfl rfl [43, 44, 45, 46, 47, 48, 49, 50, 51, 52, 53, 54, 55, 56, 57, 58, 59, 60, 61, 62, 63, 64, 65, 66] gl_Law_43_at gl_Law_43_nd gl_M_fst gl_Law_43_set rfl rfl (Nat.le_of_ble_eq_true rfl) ⟨Nat.le_refl _, Nat.le_refl _⟩ dL_law_298 ?_
                  refine gq_icmp_eq (tgt := 584) X dL_law_301 (by decide) (fun _ => ?_) (fun h => absurd (by rw [er13, er14]; exact (hs_stop i F M hk hI).1) h)
                  refine gq_iinc (lv' := [(3, .int (nI (5 * (i + 1)))), (2, .ref (b 0)), (1, .ref (a 0)), (0, .ref q)]) X dL_law_584 0 rfl (by rw [show 5 * (i + 1) = 5 * i + 5 by omega]; exact nI_add (5 * i) 5) (by decide) rfl ?_
                  refine gq_goto (tgt := 18) X dL_law_587 (by decide) ?_
                  exact ih (r13.2, r14.2) hlt (by rw [er13, er14]; exact (hs_stop i F M hk hI).2)
                · rcases Classical.em ((xs (gq_ix (nI (5 * i)))) &&& 31 = 7) with h32_7 | h32_7
                  · refine gq_tin (k := 7) (off := 274) (tgt := 306) X dL_law_32 h32_7 (by decide) (by decide) (by decide) (by decide) ?_
                    refine gq_aload_n X dL_law_306 2 rfl ?_
                    refine gq_callVr (ws' := gw_Law cA a b (F, M)) X (c_X6_ended l D cA a F) rfl ⟨rfl, rfl⟩ ⟨Nat.le_of_ble_eq_true rfl, Nat.le_of_ble_eq_true rfl⟩ gL_law_X6_ended hv_X6_ended 0 rfl rfl [0, 1, 2, 3, 4, 5, 6, 7, 8, 9, 10, 11, 12, 13, 14, 15, 16, 17, 18, 19, 20, 21, 22, 23, 24, 25, 26, 27, 28, 29, 30, 31, 32, 33, 34, 35, 36, 37, 38, 39, 40, 41, 42] gl_Law_0_at gl_Law_0_nd gl_GF_fst gl_Law_0_same rfl rfl (Nat.le_of_ble_eq_true rfl) ⟨Nat.le_refl _, Nat.le_refl _⟩ dL_law_307 ?_
                    refine gq_aload_n X dL_law_310 1 rfl ?_
                    refine gq_callVr (ws' := gw_Law cA a b (F, M)) X (c_X7_ended l D cA b M) rfl ⟨rfl, rfl⟩ ⟨Nat.le_of_ble_eq_true rfl, Nat.le_of_ble_eq_true rfl⟩ gL_law_X7_ended hv_X7_ended 43 rfl rfl [43, 44, 45, 46, 47, 48, 49, 50, 51, 52, 53, 54, 55, 56, 57, 58, 59, 60, 61, 62, 63, 64, 65, 66] gl_Law_43_at gl_Law_43_nd gl_M_fst gl_Law_43_same rfl rfl (Nat.le_of_ble_eq_true rfl) ⟨Nat.le_refl _, Nat.le_refl _⟩ dL_law_311 ?_
                    refine gq_icmp_eq (tgt := 584) X dL_law_314 (by decide) (fun _ => ?_) (fun h => absurd (by exact (hs_ended i F M hk hI).1) h)
                    refine gq_iinc (lv' := [(3, .int (nI (5 * (i + 1)))), (2, .ref (b 0)), (1, .ref (a 0)), (0, .ref q)]) X dL_law_584 0 rfl (by rw [show 5 * (i + 1) = 5 * i + 5 by omega]; exact nI_add (5 * i) 5) (by decide) rfl ?_
                    refine gq_goto (tgt := 18) X dL_law_587 (by decide) ?_
                    exact ih (F, M) hlt (by exact (hs_ended i F M hk hI).2)
                  · rcases Classical.em ((xs (gq_ix (nI (5 * i)))) &&& 31 = 8) with h32_8 | h32_8
                    · refine gq_tin (k := 8) (off := 287) (tgt := 319) X dL_law_32 h32_8 (by decide) (by decide) (by decide) (by decide) ?_
                      refine gq_aload_n X dL_law_319 2 rfl ?_
                      refine gq_aload_n X dL_law_320 3 rfl ?_
                      refine gq_iload_n X dL_law_321 0 rfl ?_
                      refine gq_iconst (v := 1) X dL_law_322 gq_i1 ?_
                      refine gq_iadd X dL_law_323 ?_
                      refine gq_sld X hX hbl hbA (lw_ix (j := 1) (by decide) hL hlt (by decide)) dL_law_324 ?_
                      refine gq_aload_n X dL_law_325 3 rfl ?_
                      refine gq_iload_n X dL_law_326 0 rfl ?_
                      refine gq_iconst (v := 2) X dL_law_327 gq_i2 ?_
                      refine gq_iadd X dL_law_328 ?_
                      refine gq_sld X hX hbl hbA (lw_ix (j := 2) (by decide) hL hlt (by decide)) dL_law_329 ?_
                      refine gq_aload_n X dL_law_330 3 rfl ?_
                      refine gq_iload_n X dL_law_331 0 rfl ?_
                      refine gq_iconst (v := 3) X dL_law_332 gq_i3 ?_
                      refine gq_iadd X dL_law_333 ?_
                      refine gq_sld X hX hbl hbA (lw_ix (j := 3) (by decide) hL hlt (by decide)) dL_law_334 ?_
                      obtain ⟨r15, er15⟩ : ∃ y, y = k_X6_harm F (xs (gq_ix ((nI (5 * i)) + 1))) (xs (gq_ix ((nI (5 * i)) + 2))) (xs (gq_ix ((nI (5 * i)) + 3))) := ⟨_, rfl⟩
                      refine gq_callVr (ws' := gw_Law cA a b (r15.2, M)) X (gq_Ceq (res2 := some (Value.int r15.1)) (w2 := gw_GF cA a r15.2) (c_X6_harm l D cA a F (xs (gq_ix ((nI (5 * i)) + 1))) (xs (gq_ix ((nI (5 * i)) + 2))) (xs (gq_ix ((nI (5 * i)) + 3)))) (by rw [er15]) (by rw [er15])) rfl ⟨rfl, rfl⟩ ⟨Nat.le_of_ble_eq_true rfl, Nat.le_of_ble_eq_true rfl⟩ gL_law_X6_harm hv_X6_harm 0 rfl rfl [0, 1, 2, 3, 4, 5, 6, 7, 8, 9, 10, 11, 12, 13, 14, 15, 16, 17, 18, 19, 20, 21, 22, 23, 24, 25, 26, 27, 28, 29, 30, 31, 32, 33, 34, 35, 36, 37, 38, 39, 40, 41, 42] gl_Law_0_at gl_Law_0_nd gl_GF_fst gl_Law_0_set rfl rfl (Nat.le_of_ble_eq_true rfl) ⟨Nat.le_refl _, Nat.le_refl _⟩ dL_law_335 ?_
                      refine gq_aload_n X dL_law_338 1 rfl ?_
                      refine gq_aload_n X dL_law_339 3 rfl ?_
                      refine gq_iload_n X dL_law_340 0 rfl ?_
                      refine gq_iconst (v := 1) X dL_law_341 gq_i1 ?_
                      refine gq_iadd X dL_law_342 ?_
                      refine gq_sld X hX hbl hbA (lw_ix (j := 1) (by decide) hL hlt (by decide)) dL_law_343 ?_
                      refine gq_aload_n X dL_law_344 3 rfl ?_
                      refine gq_iload_n X dL_law_345 0 rfl ?_
                      refine gq_iconst (v := 2) X dL_law_346 gq_i2 ?_
                      refine gq_iadd X dL_law_347 ?_
                      refine gq_sld X hX hbl hbA (lw_ix (j := 2) (by decide) hL hlt (by decide)) dL_law_348 ?_
                      refine gq_aload_n X dL_law_349 3 rfl ?_
                      refine gq_iload_n X dL_law_350 0 rfl ?_
                      refine gq_iconst (v := 3) X dL_law_351 gq_i3 ?_
                      refine gq_iadd X dL_law_352 ?_
                      refine gq_sld X hX hbl hbA (lw_ix (j := 3) (by decide) hL hlt (by decide)) dL_law_353 ?_
                      obtain ⟨r16, er16⟩ : ∃ y, y = k_X7_harm M (xs (gq_ix ((nI (5 * i)) + 1))) (xs (gq_ix ((nI (5 * i)) + 2))) (xs (gq_ix ((nI (5 * i)) + 3))) := ⟨_, rfl⟩
                      refine gq_callVr (ws' := gw_Law cA a b (r15.2, r16.2)) X (gq_Ceq (res2 := some (Value.int r16.1)) (w2 := gw_M cA b r16.2) (c_X7_harm l D cA b M (xs (gq_ix ((nI (5 * i)) + 1))) (xs (gq_ix ((nI (5 * i)) + 2))) (xs (gq_ix ((nI (5 * i)) + 3))) (hs_p i F M hI).1.1.2.2.1) (by rw [er16]) (by rw [er16])) rfl ⟨rfl, rfl⟩ ⟨Nat.le_of_ble_eq_true rfl, Nat.le_of_ble_eq_true rfl⟩ gL_law_X7_harm hv_X7_harm 43 rfl rfl [43, 44, 45, 46, 47, 48, 49, 50, 51, 52, 53, 54, 55, 56, 57, 58, 59, 60, 61, 62, 63, 64, 65, 66] gl_Law_43_at gl_Law_43_nd gl_M_fst gl_Law_43_set rfl rfl (Nat.le_of_ble_eq_true rfl) ⟨Nat.le_refl _, Nat.le_refl _⟩ dL_law_354 ?_
                      refine gq_icmp_eq (tgt := 584) X dL_law_357 (by decide) (fun _ => ?_) (fun h => absurd (by rw [er15, er16]; exact (hs_harm i F M (xs (gq_ix ((nI (5 * i)) + 1))) (xs (gq_ix ((nI (5 * i)) + 2))) (xs (gq_ix ((nI (5 * i)) + 3))) hk hI).1) h)
                      refine gq_iinc (lv' := [(3, .int (nI (5 * (i + 1)))), (2, .ref (b 0)), (1, .ref (a 0)), (0, .ref q)]) X dL_law_584 0 rfl (by rw [show 5 * (i + 1) = 5 * i + 5 by omega]; exact nI_add (5 * i) 5) (by decide) rfl ?_
                      refine gq_goto (tgt := 18) X dL_law_587 (by decide) ?_
                      exact ih (r15.2, r16.2) hlt (by rw [er15, er16]; exact (hs_harm i F M (xs (gq_ix ((nI (5 * i)) + 1))) (xs (gq_ix ((nI (5 * i)) + 2))) (xs (gq_ix ((nI (5 * i)) + 3))) hk hI).2)
                    · rcases Classical.em ((xs (gq_ix (nI (5 * i)))) &&& 31 = 9) with h32_9 | h32_9
                      · refine gq_tin (k := 9) (off := 330) (tgt := 362) X dL_law_32 h32_9 (by decide) (by decide) (by decide) (by decide) ?_
                        refine gq_aload_n X dL_law_362 2 rfl ?_
                        obtain ⟨r17, er17⟩ : ∃ y, y = k_X6_forget F := ⟨_, rfl⟩
                        refine gq_callVr (ws' := gw_Law cA a b (r17.2, M)) X (gq_Ceq (res2 := some (Value.int r17.1)) (w2 := gw_GF cA a r17.2) (c_X6_forget l D cA a F) (by rw [er17]) (by rw [er17])) rfl ⟨rfl, rfl⟩ ⟨Nat.le_of_ble_eq_true rfl, Nat.le_of_ble_eq_true rfl⟩ gL_law_X6_forget hv_X6_forget 0 rfl rfl [0, 1, 2, 3, 4, 5, 6, 7, 8, 9, 10, 11, 12, 13, 14, 15, 16, 17, 18, 19, 20, 21, 22, 23, 24, 25, 26, 27, 28, 29, 30, 31, 32, 33, 34, 35, 36, 37, 38, 39, 40, 41, 42] gl_Law_0_at gl_Law_0_nd gl_GF_fst gl_Law_0_set rfl rfl (Nat.le_of_ble_eq_true rfl) ⟨Nat.le_refl _, Nat.le_refl _⟩ dL_law_363 ?_
                        refine gq_aload_n X dL_law_366 1 rfl ?_
                        obtain ⟨r18, er18⟩ : ∃ y, y = k_X7_forget M := ⟨_, rfl⟩
                        refine gq_callVr (ws' := gw_Law cA a b (r17.2, r18.2)) X (gq_Ceq (res2 := some (Value.int r18.1)) (w2 := gw_M cA b r18.2) (c_X7_forget l D cA b M) (by rw [er18]) (by rw [er18])) rfl ⟨rfl, rfl⟩ ⟨Nat.le_of_ble_eq_true rfl, Nat.le_of_ble_eq_true rfl⟩ gL_law_X7_forget hv_X7_forget 43 rfl rfl [43, 44, 45, 46, 47, 48, 49, 50, 51, 52, 53, 54, 55, 56, 57, 58, 59, 60, 61, 62, 63, 64, 65, 66] gl_Law_43_at gl_Law_43_nd gl_M_fst gl_Law_43_set rfl rfl (Nat.le_of_ble_eq_true rfl) ⟨Nat.le_refl _, Nat.le_refl _⟩ dL_law_367 ?_
                        refine gq_icmp_eq (tgt := 584) X dL_law_370 (by decide) (fun _ => ?_) (fun h => absurd (by rw [er17, er18]; exact (hs_forget i F M hk hI).1) h)
                        refine gq_iinc (lv' := [(3, .int (nI (5 * (i + 1)))), (2, .ref (b 0)), (1, .ref (a 0)), (0, .ref q)]) X dL_law_584 0 rfl (by rw [show 5 * (i + 1) = 5 * i + 5 by omega]; exact nI_add (5 * i) 5) (by decide) rfl ?_
                        refine gq_goto (tgt := 18) X dL_law_587 (by decide) ?_
                        exact ih (r17.2, r18.2) hlt (by rw [er17, er18]; exact (hs_forget i F M hk hI).2)
                      · rcases Classical.em ((xs (gq_ix (nI (5 * i)))) &&& 31 = 10) with h32_10 | h32_10
                        · refine gq_tin (k := 10) (off := 343) (tgt := 375) X dL_law_32 h32_10 (by decide) (by decide) (by decide) (by decide) ?_
                          refine gq_aload_n X dL_law_375 2 rfl ?_
                          refine gq_aload_n X dL_law_376 3 rfl ?_
                          refine gq_iload_n X dL_law_377 0 rfl ?_
                          refine gq_iconst (v := 1) X dL_law_378 gq_i1 ?_
                          refine gq_iadd X dL_law_379 ?_
                          refine gq_sld X hX hbl hbA (lw_ix (j := 1) (by decide) hL hlt (by decide)) dL_law_380 ?_
                          refine gq_aload_n X dL_law_381 3 rfl ?_
                          refine gq_iload_n X dL_law_382 0 rfl ?_
                          refine gq_iconst (v := 2) X dL_law_383 gq_i2 ?_
                          refine gq_iadd X dL_law_384 ?_
                          refine gq_sld X hX hbl hbA (lw_ix (j := 2) (by decide) hL hlt (by decide)) dL_law_385 ?_
                          refine gq_callVr (ws' := gw_Law cA a b (F, M)) X (c_X6_table l D cA a F (xs (gq_ix ((nI (5 * i)) + 1))) (xs (gq_ix ((nI (5 * i)) + 2)))) rfl ⟨rfl, rfl⟩ ⟨Nat.le_of_ble_eq_true rfl, Nat.le_of_ble_eq_true rfl⟩ gL_law_X6_table hv_X6_table 0 rfl rfl [0, 1, 2, 3, 4, 5, 6, 7, 8, 9, 10, 11, 12, 13, 14, 15, 16, 17, 18, 19, 20, 21, 22, 23, 24, 25, 26, 27, 28, 29, 30, 31, 32, 33, 34, 35, 36, 37, 38, 39, 40, 41, 42] gl_Law_0_at gl_Law_0_nd gl_GF_fst gl_Law_0_same rfl rfl (Nat.le_of_ble_eq_true rfl) ⟨Nat.le_refl _, Nat.le_refl _⟩ dL_law_386 ?_
                          refine gq_aload_n X dL_law_389 1 rfl ?_
                          refine gq_aload_n X dL_law_390 3 rfl ?_
                          refine gq_iload_n X dL_law_391 0 rfl ?_
                          refine gq_iconst (v := 1) X dL_law_392 gq_i1 ?_
                          refine gq_iadd X dL_law_393 ?_
                          refine gq_sld X hX hbl hbA (lw_ix (j := 1) (by decide) hL hlt (by decide)) dL_law_394 ?_
                          refine gq_aload_n X dL_law_395 3 rfl ?_
                          refine gq_iload_n X dL_law_396 0 rfl ?_
                          refine gq_iconst (v := 2) X dL_law_397 gq_i2 ?_
                          refine gq_iadd X dL_law_398 ?_
                          refine gq_sld X hX hbl hbA (lw_ix (j := 2) (by decide) hL hlt (by decide)) dL_law_399 ?_
                          refine gq_callVr (ws' := gw_Law cA a b (F, M)) X (c_X7_table l D cA b M (xs (gq_ix ((nI (5 * i)) + 1))) (xs (gq_ix ((nI (5 * i)) + 2))) (hs_p i F M hI).1.1.2.2.1) rfl ⟨rfl, rfl⟩ ⟨Nat.le_of_ble_eq_true rfl, Nat.le_of_ble_eq_true rfl⟩ gL_law_X7_table hv_X7_table 43 rfl rfl [43, 44, 45, 46, 47, 48, 49, 50, 51, 52, 53, 54, 55, 56, 57, 58, 59, 60, 61, 62, 63, 64, 65, 66] gl_Law_43_at gl_Law_43_nd gl_M_fst gl_Law_43_same rfl rfl (Nat.le_of_ble_eq_true rfl) ⟨Nat.le_refl _, Nat.le_refl _⟩ dL_law_400 ?_
                          refine gq_icmp_eq (tgt := 584) X dL_law_403 (by decide) (fun _ => ?_) (fun h => absurd (by exact (hs_table i F M (xs (gq_ix ((nI (5 * i)) + 1))) (xs (gq_ix ((nI (5 * i)) + 2))) hk hI).1) h)
                          refine gq_iinc (lv' := [(3, .int (nI (5 * (i + 1)))), (2, .ref (b 0)), (1, .ref (a 0)), (0, .ref q)]) X dL_law_584 0 rfl (by rw [show 5 * (i + 1) = 5 * i + 5 by omega]; exact nI_add (5 * i) 5) (by decide) rfl ?_
                          refine gq_goto (tgt := 18) X dL_law_587 (by decide) ?_
                          exact ih (F, M) hlt (by exact (hs_table i F M (xs (gq_ix ((nI (5 * i)) + 1))) (xs (gq_ix ((nI (5 * i)) + 2))) hk hI).2)
                        · rcases Classical.em ((xs (gq_ix (nI (5 * i)))) &&& 31 = 11) with h32_11 | h32_11
                          · refine gq_tin (k := 11) (off := 376) (tgt := 408) X dL_law_32 h32_11 (by decide) (by decide) (by decide) (by decide) ?_
                            refine gq_aload_n X dL_law_408 2 rfl ?_
                            refine gq_aload_n X dL_law_409 3 rfl ?_
                            refine gq_iload_n X dL_law_410 0 rfl ?_
                            refine gq_iconst (v := 1) X dL_law_411 gq_i1 ?_
                            refine gq_iadd X dL_law_412 ?_
                            refine gq_sld X hX hbl hbA (lw_ix (j := 1) (by decide) hL hlt (by decide)) dL_law_413 ?_
                            refine gq_callVr (ws' := gw_Law cA a b (F, M)) X (c_X6_value l D cA a F (xs (gq_ix ((nI (5 * i)) + 1)))) rfl ⟨rfl, rfl⟩ ⟨Nat.le_of_ble_eq_true rfl, Nat.le_of_ble_eq_true rfl⟩ gL_law_X6_value hv_X6_value 0 rfl rfl [0, 1, 2, 3, 4, 5, 6, 7, 8, 9, 10, 11, 12, 13, 14, 15, 16, 17, 18, 19, 20, 21, 22, 23, 24, 25, 26, 27, 28, 29, 30, 31, 32, 33, 34, 35, 36, 37, 38, 39, 40, 41, 42] gl_Law_0_at gl_Law_0_nd gl_GF_fst gl_Law_0_same rfl rfl (Nat.le_of_ble_eq_true rfl) ⟨Nat.le_refl _, Nat.le_refl _⟩ dL_law_414 ?_
                            refine gq_aload_n X dL_law_417 1 rfl ?_
                            refine gq_aload_n X dL_law_418 3 rfl ?_
                            refine gq_iload_n X dL_law_419 0 rfl ?_
                            refine gq_iconst (v := 1) X dL_law_420 gq_i1 ?_
                            refine gq_iadd X dL_law_421 ?_
                            refine gq_sld X hX hbl hbA (lw_ix (j := 1) (by decide) hL hlt (by decide)) dL_law_422 ?_
                            refine gq_callVr (ws' := gw_Law cA a b (F, M)) X (c_X7_value l D cA b M (xs (gq_ix ((nI (5 * i)) + 1)))) rfl ⟨rfl, rfl⟩ ⟨Nat.le_of_ble_eq_true rfl, Nat.le_of_ble_eq_true rfl⟩ gL_law_X7_value hv_X7_value 43 rfl rfl [43, 44, 45, 46, 47, 48, 49, 50, 51, 52, 53, 54, 55, 56, 57, 58, 59, 60, 61, 62, 63, 64, 65, 66] gl_Law_43_at gl_Law_43_nd gl_M_fst gl_Law_43_same rfl rfl (Nat.le_of_ble_eq_true rfl) ⟨Nat.le_refl _, Nat.le_refl _⟩ dL_law_423 ?_
                            refine gq_lcmp X dL_law_426 ?_
                            refine gq_if_eq (tgt := 584) X dL_law_427 (by decide) (fun _ => ?_) (fun h => absurd (by rw [show k_X6_value F (xs (gq_ix ((nI (5 * i)) + 1))) = k_X7_value M (xs (gq_ix ((nI (5 * i)) + 1))) from (by exact (hs_value i F M (xs (gq_ix ((nI (5 * i)) + 1))) hk hI).1)]; exact lw_cmp0 _) h)
                            refine gq_iinc (lv' := [(3, .int (nI (5 * (i + 1)))), (2, .ref (b 0)), (1, .ref (a 0)), (0, .ref q)]) X dL_law_584 0 rfl (by rw [show 5 * (i + 1) = 5 * i + 5 by omega]; exact nI_add (5 * i) 5) (by decide) rfl ?_
                            refine gq_goto (tgt := 18) X dL_law_587 (by decide) ?_
                            exact ih (F, M) hlt (by exact (hs_value i F M (xs (gq_ix ((nI (5 * i)) + 1))) hk hI).2)
                          · rcases Classical.em ((xs (gq_ix (nI (5 * i)))) &&& 31 = 12) with h32_12 | h32_12
                            · refine gq_tin (k := 12) (off := 400) (tgt := 432) X dL_law_32 h32_12 (by decide) (by decide) (by decide) (by decide) ?_
                              refine gq_aload_n X dL_law_432 2 rfl ?_
                              refine gq_aload_n X dL_law_433 3 rfl ?_
                              refine gq_iload_n X dL_law_434 0 rfl ?_
                              refine gq_iconst (v := 1) X dL_law_435 gq_i1 ?_
                              refine gq_iadd X dL_law_436 ?_
                              refine gq_sld X hX hbl hbA (lw_ix (j := 1) (by decide) hL hlt (by decide)) dL_law_437 ?_
                              refine gq_callVr (ws' := gw_Law cA a b (F, M)) X (c_X6_stack l D cA a F (xs (gq_ix ((nI (5 * i)) + 1)))) rfl ⟨rfl, rfl⟩ ⟨Nat.le_of_ble_eq_true rfl, Nat.le_of_ble_eq_true rfl⟩ gL_law_X6_stack hv_X6_stack 0 rfl rfl [0, 1, 2, 3, 4, 5, 6, 7, 8, 9, 10, 11, 12, 13, 14, 15, 16, 17, 18, 19, 20, 21, 22, 23, 24, 25, 26, 27, 28, 29, 30, 31, 32, 33, 34, 35, 36, 37, 38, 39, 40, 41, 42] gl_Law_0_at gl_Law_0_nd gl_GF_fst gl_Law_0_same rfl rfl (Nat.le_of_ble_eq_true rfl) ⟨Nat.le_refl _, Nat.le_refl _⟩ dL_law_438 ?_
                              refine gq_aload_n X dL_law_441 1 rfl ?_
                              refine gq_aload_n X dL_law_442 3 rfl ?_
                              refine gq_iload_n X dL_law_443 0 rfl ?_
                              refine gq_iconst (v := 1) X dL_law_444 gq_i1 ?_
                              refine gq_iadd X dL_law_445 ?_
                              refine gq_sld X hX hbl hbA (lw_ix (j := 1) (by decide) hL hlt (by decide)) dL_law_446 ?_
                              refine gq_callVr (ws' := gw_Law cA a b (F, M)) X (c_X7_stack l D cA b M (xs (gq_ix ((nI (5 * i)) + 1))) (hs_p i F M hI).1.2.2.2.2.2.2.1) rfl ⟨rfl, rfl⟩ ⟨Nat.le_of_ble_eq_true rfl, Nat.le_of_ble_eq_true rfl⟩ gL_law_X7_stack hv_X7_stack 43 rfl rfl [43, 44, 45, 46, 47, 48, 49, 50, 51, 52, 53, 54, 55, 56, 57, 58, 59, 60, 61, 62, 63, 64, 65, 66] gl_Law_43_at gl_Law_43_nd gl_M_fst gl_Law_43_same rfl rfl (Nat.le_of_ble_eq_true rfl) ⟨Nat.le_refl _, Nat.le_refl _⟩ dL_law_447 ?_
                              refine gq_icmp_eq (tgt := 584) X dL_law_450 (by decide) (fun _ => ?_) (fun h => absurd (by exact (hs_stack i F M (xs (gq_ix ((nI (5 * i)) + 1))) hk hI).1) h)
                              refine gq_iinc (lv' := [(3, .int (nI (5 * (i + 1)))), (2, .ref (b 0)), (1, .ref (a 0)), (0, .ref q)]) X dL_law_584 0 rfl (by rw [show 5 * (i + 1) = 5 * i + 5 by omega]; exact nI_add (5 * i) 5) (by decide) rfl ?_
                              refine gq_goto (tgt := 18) X dL_law_587 (by decide) ?_
                              exact ih (F, M) hlt (by exact (hs_stack i F M (xs (gq_ix ((nI (5 * i)) + 1))) hk hI).2)
                            · rcases Classical.em ((xs (gq_ix (nI (5 * i)))) &&& 31 = 13) with h32_13 | h32_13
                              · refine gq_tin (k := 13) (off := 423) (tgt := 455) X dL_law_32 h32_13 (by decide) (by decide) (by decide) (by decide) ?_
                                refine gq_aload_n X dL_law_455 2 rfl ?_
                                refine gq_aload_n X dL_law_456 3 rfl ?_
                                refine gq_iload_n X dL_law_457 0 rfl ?_
                                refine gq_iconst (v := 1) X dL_law_458 gq_i1 ?_
                                refine gq_iadd X dL_law_459 ?_
                                refine gq_sld X hX hbl hbA (lw_ix (j := 1) (by decide) hL hlt (by decide)) dL_law_460 ?_
                                refine gq_callVr (ws' := gw_Law cA a b (F, M)) X (c_X6_done l D cA a F (xs (gq_ix ((nI (5 * i)) + 1)))) rfl ⟨rfl, rfl⟩ ⟨Nat.le_of_ble_eq_true rfl, Nat.le_of_ble_eq_true rfl⟩ gL_law_X6_done hv_X6_done 0 rfl rfl [0, 1, 2, 3, 4, 5, 6, 7, 8, 9, 10, 11, 12, 13, 14, 15, 16, 17, 18, 19, 20, 21, 22, 23, 24, 25, 26, 27, 28, 29, 30, 31, 32, 33, 34, 35, 36, 37, 38, 39, 40, 41, 42] gl_Law_0_at gl_Law_0_nd gl_GF_fst gl_Law_0_same rfl rfl (Nat.le_of_ble_eq_true rfl) ⟨Nat.le_refl _, Nat.le_refl _⟩ dL_law_461 ?_
                                refine gq_aload_n X dL_law_464 1 rfl ?_
                                refine gq_aload_n X dL_law_465 3 rfl ?_
                                refine gq_iload_n X dL_law_466 0 rfl ?_
                                refine gq_iconst (v := 1) X dL_law_467 gq_i1 ?_
                                refine gq_iadd X dL_law_468 ?_
                                refine gq_sld X hX hbl hbA (lw_ix (j := 1) (by decide) hL hlt (by decide)) dL_law_469 ?_
                                refine gq_callVr (ws' := gw_Law cA a b (F, M)) X (c_X7_done l D cA b M (xs (gq_ix ((nI (5 * i)) + 1))) (hs_p i F M hI).1.2.2.2.2.2.2.2.2) rfl ⟨rfl, rfl⟩ ⟨Nat.le_of_ble_eq_true rfl, Nat.le_of_ble_eq_true rfl⟩ gL_law_X7_done hv_X7_done 43 rfl rfl [43, 44, 45, 46, 47, 48, 49, 50, 51, 52, 53, 54, 55, 56, 57, 58, 59, 60, 61, 62, 63, 64, 65, 66] gl_Law_43_at gl_Law_43_nd gl_M_fst gl_Law_43_same rfl rfl (Nat.le_of_ble_eq_true rfl) ⟨Nat.le_refl _, Nat.le_refl _⟩ dL_law_470 ?_
                                refine gq_icmp_eq (tgt := 584) X dL_law_473 (by decide) (fun _ => ?_) (fun h => absurd (by exact (hs_done i F M (xs (gq_ix ((nI (5 * i)) + 1))) hk hI).1) h)
                                refine gq_iinc (lv' := [(3, .int (nI (5 * (i + 1)))), (2, .ref (b 0)), (1, .ref (a 0)), (0, .ref q)]) X dL_law_584 0 rfl (by rw [show 5 * (i + 1) = 5 * i + 5 by omega]; exact nI_add (5 * i) 5) (by decide) rfl ?_
                                refine gq_goto (tgt := 18) X dL_law_587 (by decide) ?_
                                exact ih (F, M) hlt (by exact (hs_done i F M (xs (gq_ix ((nI (5 * i)) + 1))) hk hI).2)
                              · rcases Classical.em ((xs (gq_ix (nI (5 * i)))) &&& 31 = 14) with h32_14 | h32_14
                                · refine gq_tin (k := 14) (off := 446) (tgt := 478) X dL_law_32 h32_14 (by decide) (by decide) (by decide) (by decide) ?_
                                  refine gq_aload_n X dL_law_478 2 rfl ?_
                                  refine gq_aload_n X dL_law_479 3 rfl ?_
                                  refine gq_iload_n X dL_law_480 0 rfl ?_
                                  refine gq_iconst (v := 1) X dL_law_481 gq_i1 ?_
                                  refine gq_iadd X dL_law_482 ?_
                                  refine gq_sld X hX hbl hbA (lw_ix (j := 1) (by decide) hL hlt (by decide)) dL_law_483 ?_
                                  refine gq_callVr (ws' := gw_Law cA a b (F, M)) X (c_X6_fetched l D cA a F (xs (gq_ix ((nI (5 * i)) + 1)))) rfl ⟨rfl, rfl⟩ ⟨Nat.le_of_ble_eq_true rfl, Nat.le_of_ble_eq_true rfl⟩ gL_law_X6_fetched hv_X6_fetched 0 rfl rfl [0, 1, 2, 3, 4, 5, 6, 7, 8, 9, 10, 11, 12, 13, 14, 15, 16, 17, 18, 19, 20, 21, 22, 23, 24, 25, 26, 27, 28, 29, 30, 31, 32, 33, 34, 35, 36, 37, 38, 39, 40, 41, 42] gl_Law_0_at gl_Law_0_nd gl_GF_fst gl_Law_0_same rfl rfl (Nat.le_of_ble_eq_true rfl) ⟨Nat.le_refl _, Nat.le_refl _⟩ dL_law_484 ?_
                                  refine gq_aload_n X dL_law_487 1 rfl ?_
                                  refine gq_aload_n X dL_law_488 3 rfl ?_
                                  refine gq_iload_n X dL_law_489 0 rfl ?_
                                  refine gq_iconst (v := 1) X dL_law_490 gq_i1 ?_
                                  refine gq_iadd X dL_law_491 ?_
                                  refine gq_sld X hX hbl hbA (lw_ix (j := 1) (by decide) hL hlt (by decide)) dL_law_492 ?_
                                  refine gq_callVr (ws' := gw_Law cA a b (F, M)) X (c_X7_fetched l D cA b M (xs (gq_ix ((nI (5 * i)) + 1))) (mv_le (n := 8) (k := 9) (hs_p i F M hI).1.1.2.2.2 (by decide))) rfl ⟨rfl, rfl⟩ ⟨Nat.le_of_ble_eq_true rfl, Nat.le_of_ble_eq_true rfl⟩ gL_law_X7_fetched hv_X7_fetched 43 rfl rfl [43, 44, 45, 46, 47, 48, 49, 50, 51, 52, 53, 54, 55, 56, 57, 58, 59, 60, 61, 62, 63, 64, 65, 66] gl_Law_43_at gl_Law_43_nd gl_M_fst gl_Law_43_same rfl rfl (Nat.le_of_ble_eq_true rfl) ⟨Nat.le_refl _, Nat.le_refl _⟩ dL_law_493 ?_
                                  refine gq_icmp_eq (tgt := 584) X dL_law_496 (by decide) (fun _ => ?_) (fun h => absurd (by exact (hs_fetched i F M (xs (gq_ix ((nI (5 * i)) + 1))) hk hI).1) h)
                                  refine gq_iinc (lv' := [(3, .int (nI (5 * (i + 1)))), (2, .ref (b 0)), (1, .ref (a 0)), (0, .ref q)]) X dL_law_584 0 rfl (by rw [show 5 * (i + 1) = 5 * i + 5 by omega]; exact nI_add (5 * i) 5) (by decide) rfl ?_
                                  refine gq_goto (tgt := 18) X dL_law_587 (by decide) ?_
                                  exact ih (F, M) hlt (by exact (hs_fetched i F M (xs (gq_ix ((nI (5 * i)) + 1))) hk hI).2)
                                · rcases Classical.em ((xs (gq_ix (nI (5 * i)))) &&& 31 = 15) with h32_15 | h32_15
                                  · refine gq_tin (k := 15) (off := 469) (tgt := 501) X dL_law_32 h32_15 (by decide) (by decide) (by decide) (by decide) ?_
                                    refine gq_aload_n X dL_law_501 2 rfl ?_
                                    refine gq_callVr (ws' := gw_Law cA a b (F, M)) X (c_X6_known l D cA a F) rfl ⟨rfl, rfl⟩ ⟨Nat.le_of_ble_eq_true rfl, Nat.le_of_ble_eq_true rfl⟩ gL_law_X6_known hv_X6_known 0 rfl rfl [0, 1, 2, 3, 4, 5, 6, 7, 8, 9, 10, 11, 12, 13, 14, 15, 16, 17, 18, 19, 20, 21, 22, 23, 24, 25, 26, 27, 28, 29, 30, 31, 32, 33, 34, 35, 36, 37, 38, 39, 40, 41, 42] gl_Law_0_at gl_Law_0_nd gl_GF_fst gl_Law_0_same rfl rfl (Nat.le_of_ble_eq_true rfl) ⟨Nat.le_refl _, Nat.le_refl _⟩ dL_law_502 ?_
                                    refine gq_aload_n X dL_law_505 1 rfl ?_
                                    refine gq_callVr (ws' := gw_Law cA a b (F, M)) X (c_X7_known l D cA b M) rfl ⟨rfl, rfl⟩ ⟨Nat.le_of_ble_eq_true rfl, Nat.le_of_ble_eq_true rfl⟩ gL_law_X7_known hv_X7_known 43 rfl rfl [43, 44, 45, 46, 47, 48, 49, 50, 51, 52, 53, 54, 55, 56, 57, 58, 59, 60, 61, 62, 63, 64, 65, 66] gl_Law_43_at gl_Law_43_nd gl_M_fst gl_Law_43_same rfl rfl (Nat.le_of_ble_eq_true rfl) ⟨Nat.le_refl _, Nat.le_refl _⟩ dL_law_506 ?_
                                    refine gq_icmp_eq (tgt := 584) X dL_law_509 (by decide) (fun _ => ?_) (fun h => absurd (by exact (hs_known i F M hk hI).1) h)
                                    refine gq_iinc (lv' := [(3, .int (nI (5 * (i + 1)))), (2, .ref (b 0)), (1, .ref (a 0)), (0, .ref q)]) X dL_law_584 0 rfl (by rw [show 5 * (i + 1) = 5 * i + 5 by omega]; exact nI_add (5 * i) 5) (by decide) rfl ?_
                                    refine gq_goto (tgt := 18) X dL_law_587 (by decide) ?_
                                    exact ih (F, M) hlt (by exact (hs_known i F M hk hI).2)
                                  · rcases Classical.em ((xs (gq_ix (nI (5 * i)))) &&& 31 = 16) with h32_16 | h32_16
                                    · refine gq_tin (k := 16) (off := 482) (tgt := 514) X dL_law_32 h32_16 (by decide) (by decide) (by decide) (by decide) ?_
                                      refine gq_aload_n X dL_law_514 2 rfl ?_
                                      refine gq_aload_n X dL_law_515 3 rfl ?_
                                      refine gq_iload_n X dL_law_516 0 rfl ?_
                                      refine gq_iconst (v := 1) X dL_law_517 gq_i1 ?_
                                      refine gq_iadd X dL_law_518 ?_
                                      refine gq_sld X hX hbl hbA (lw_ix (j := 1) (by decide) hL hlt (by decide)) dL_law_519 ?_
                                      refine gq_aload_n X dL_law_520 3 rfl ?_
                                      refine gq_iload_n X dL_law_521 0 rfl ?_
                                      refine gq_iconst (v := 2) X dL_law_522 gq_i2 ?_
                                      refine gq_iadd X dL_law_523 ?_
                                      refine gq_sld X hX hbl hbA (lw_ix (j := 2) (by decide) hL hlt (by decide)) dL_law_524 ?_
                                      refine gq_callVr (ws' := gw_Law cA a b (F, M)) X (c_X6_told l D cA a F (xs (gq_ix ((nI (5 * i)) + 1))) (xs (gq_ix ((nI (5 * i)) + 2)))) rfl ⟨rfl, rfl⟩ ⟨Nat.le_of_ble_eq_true rfl, Nat.le_of_ble_eq_true rfl⟩ gL_law_X6_told hv_X6_told 0 rfl rfl [0, 1, 2, 3, 4, 5, 6, 7, 8, 9, 10, 11, 12, 13, 14, 15, 16, 17, 18, 19, 20, 21, 22, 23, 24, 25, 26, 27, 28, 29, 30, 31, 32, 33, 34, 35, 36, 37, 38, 39, 40, 41, 42] gl_Law_0_at gl_Law_0_nd gl_GF_fst gl_Law_0_same rfl rfl (Nat.le_of_ble_eq_true rfl) ⟨Nat.le_refl _, Nat.le_refl _⟩ dL_law_525 ?_
                                      refine gq_aload_n X dL_law_528 1 rfl ?_
                                      refine gq_aload_n X dL_law_529 3 rfl ?_
                                      refine gq_iload_n X dL_law_530 0 rfl ?_
                                      refine gq_iconst (v := 1) X dL_law_531 gq_i1 ?_
                                      refine gq_iadd X dL_law_532 ?_
                                      refine gq_sld X hX hbl hbA (lw_ix (j := 1) (by decide) hL hlt (by decide)) dL_law_533 ?_
                                      refine gq_aload_n X dL_law_534 3 rfl ?_
                                      refine gq_iload_n X dL_law_535 0 rfl ?_
                                      refine gq_iconst (v := 2) X dL_law_536 gq_i2 ?_
                                      refine gq_iadd X dL_law_537 ?_
                                      refine gq_sld X hX hbl hbA (lw_ix (j := 2) (by decide) hL hlt (by decide)) dL_law_538 ?_
                                      refine gq_callVr (ws' := gw_Law cA a b (F, M)) X (c_X7_told l D cA b M (xs (gq_ix ((nI (5 * i)) + 1))) (xs (gq_ix ((nI (5 * i)) + 2))) (hs_p i F M hI).1.1.1) rfl ⟨rfl, rfl⟩ ⟨Nat.le_of_ble_eq_true rfl, Nat.le_of_ble_eq_true rfl⟩ gL_law_X7_told hv_X7_told 43 rfl rfl [43, 44, 45, 46, 47, 48, 49, 50, 51, 52, 53, 54, 55, 56, 57, 58, 59, 60, 61, 62, 63, 64, 65, 66] gl_Law_43_at gl_Law_43_nd gl_M_fst gl_Law_43_same rfl rfl (Nat.le_of_ble_eq_true rfl) ⟨Nat.le_refl _, Nat.le_refl _⟩ dL_law_539 ?_
                                      refine gq_icmp_eq (tgt := 584) X dL_law_542 (by decide) (fun _ => ?_) (fun h => absurd (by exact (hs_told i F M (xs (gq_ix ((nI (5 * i)) + 1))) (xs (gq_ix ((nI (5 * i)) + 2))) hk hI).1) h)
                                      refine gq_iinc (lv' := [(3, .int (nI (5 * (i + 1)))), (2, .ref (b 0)), (1, .ref (a 0)), (0, .ref q)]) X dL_law_584 0 rfl (by rw [show 5 * (i + 1) = 5 * i + 5 by omega]; exact nI_add (5 * i) 5) (by decide) rfl ?_
                                      refine gq_goto (tgt := 18) X dL_law_587 (by decide) ?_
                                      exact ih (F, M) hlt (by exact (hs_told i F M (xs (gq_ix ((nI (5 * i)) + 1))) (xs (gq_ix ((nI (5 * i)) + 2))) hk hI).2)
                                    · rcases Classical.em ((xs (gq_ix (nI (5 * i)))) &&& 31 = 17) with h32_17 | h32_17
                                      · refine gq_tin (k := 17) (off := 515) (tgt := 547) X dL_law_32 h32_17 (by decide) (by decide) (by decide) (by decide) ?_
                                        refine gq_aload_n X dL_law_547 2 rfl ?_
                                        refine gq_aload_n X dL_law_548 3 rfl ?_
                                        refine gq_iload_n X dL_law_549 0 rfl ?_
                                        refine gq_iconst (v := 1) X dL_law_550 gq_i1 ?_
                                        refine gq_iadd X dL_law_551 ?_
                                        refine gq_sld X hX hbl hbA (lw_ix (j := 1) (by decide) hL hlt (by decide)) dL_law_552 ?_
                                        refine gq_callVr (ws' := gw_Law cA a b (F, M)) X (c_X6_count l D cA a F (xs (gq_ix ((nI (5 * i)) + 1)))) rfl ⟨rfl, rfl⟩ ⟨Nat.le_of_ble_eq_true rfl, Nat.le_of_ble_eq_true rfl⟩ gL_law_X6_count hv_X6_count 0 rfl rfl [0, 1, 2, 3, 4, 5, 6, 7, 8, 9, 10, 11, 12, 13, 14, 15, 16, 17, 18, 19, 20, 21, 22, 23, 24, 25, 26, 27, 28, 29, 30, 31, 32, 33, 34, 35, 36, 37, 38, 39, 40, 41, 42] gl_Law_0_at gl_Law_0_nd gl_GF_fst gl_Law_0_same rfl rfl (Nat.le_of_ble_eq_true rfl) ⟨Nat.le_refl _, Nat.le_refl _⟩ dL_law_553 ?_
                                        refine gq_aload_n X dL_law_556 1 rfl ?_
                                        refine gq_aload_n X dL_law_557 3 rfl ?_
                                        refine gq_iload_n X dL_law_558 0 rfl ?_
                                        refine gq_iconst (v := 1) X dL_law_559 gq_i1 ?_
                                        refine gq_iadd X dL_law_560 ?_
                                        refine gq_sld X hX hbl hbA (lw_ix (j := 1) (by decide) hL hlt (by decide)) dL_law_561 ?_
                                        refine gq_callVr (ws' := gw_Law cA a b (F, M)) X (c_X7_count l D cA b M (xs (gq_ix ((nI (5 * i)) + 1)))) rfl ⟨rfl, rfl⟩ ⟨Nat.le_of_ble_eq_true rfl, Nat.le_of_ble_eq_true rfl⟩ gL_law_X7_count hv_X7_count 43 rfl rfl [43, 44, 45, 46, 47, 48, 49, 50, 51, 52, 53, 54, 55, 56, 57, 58, 59, 60, 61, 62, 63, 64, 65, 66] gl_Law_43_at gl_Law_43_nd gl_M_fst gl_Law_43_same rfl rfl (Nat.le_of_ble_eq_true rfl) ⟨Nat.le_refl _, Nat.le_refl _⟩ dL_law_562 ?_
                                        refine gq_icmp_eq (tgt := 584) X dL_law_565 (by decide) (fun _ => ?_) (fun h => absurd (by exact (hs_count i F M (xs (gq_ix ((nI (5 * i)) + 1))) hk hI).1) h)
                                        refine gq_iinc (lv' := [(3, .int (nI (5 * (i + 1)))), (2, .ref (b 0)), (1, .ref (a 0)), (0, .ref q)]) X dL_law_584 0 rfl (by rw [show 5 * (i + 1) = 5 * i + 5 by omega]; exact nI_add (5 * i) 5) (by decide) rfl ?_
                                        refine gq_goto (tgt := 18) X dL_law_587 (by decide) ?_
                                        exact ih (F, M) hlt (by exact (hs_count i F M (xs (gq_ix ((nI (5 * i)) + 1))) hk hI).2)
                                      · rcases Classical.em ((xs (gq_ix (nI (5 * i)))) &&& 31 = 18) with h32_18 | h32_18
                                        · refine gq_tin (k := 18) (off := 538) (tgt := 570) X dL_law_32 h32_18 (by decide) (by decide) (by decide) (by decide) ?_
                                          refine gq_aload_n X dL_law_570 2 rfl ?_
                                          refine gq_callVr (ws' := gw_Law cA a b (F, M)) X (c_X6_digest l D cA a F (hs_p i F M hI).2.1 (hs_p i F M hI).2.2.1 (hs_p i F M hI).2.2.2.1 (hs_p i F M hI).2.2.2.2) rfl ⟨rfl, rfl⟩ ⟨Nat.le_of_ble_eq_true rfl, Nat.le_of_ble_eq_true rfl⟩ gL_law_X6_digest hv_X6_digest 0 rfl rfl [0, 1, 2, 3, 4, 5, 6, 7, 8, 9, 10, 11, 12, 13, 14, 15, 16, 17, 18, 19, 20, 21, 22, 23, 24, 25, 26, 27, 28, 29, 30, 31, 32, 33, 34, 35, 36, 37, 38, 39, 40, 41, 42] gl_Law_0_at gl_Law_0_nd gl_GF_fst gl_Law_0_same rfl rfl (Nat.le_of_ble_eq_true rfl) ⟨Nat.le_refl _, Nat.le_refl _⟩ dL_law_571 ?_
                                          refine gq_aload_n X dL_law_574 1 rfl ?_
                                          obtain ⟨r19, er19⟩ : ∃ y, y = k_X7_digest M := ⟨_, rfl⟩
                                          refine gq_callVr (ws' := gw_Law cA a b (F, r19.2)) X (gq_Ceq (res2 := some (Value.long r19.1)) (w2 := gw_M cA b r19.2) (c_X7_digest l D cA b M (hs_p i F M hI).1.1.1 (hs_p i F M hI).1.2.2.2.2.2.2.1 (hs_p i F M hI).1.1.2.2.1 (mv_le (n := 8) (k := 9) (hs_p i F M hI).1.1.2.2.2 (by decide))) (by rw [er19]) (by rw [er19])) rfl ⟨rfl, rfl⟩ ⟨Nat.le_of_ble_eq_true rfl, Nat.le_of_ble_eq_true rfl⟩ gL_law_X7_digest hv_X7_digest 43 rfl rfl [43, 44, 45, 46, 47, 48, 49, 50, 51, 52, 53, 54, 55, 56, 57, 58, 59, 60, 61, 62, 63, 64, 65, 66] gl_Law_43_at gl_Law_43_nd gl_M_fst gl_Law_43_set rfl rfl (Nat.le_of_ble_eq_true rfl) ⟨Nat.le_refl _, Nat.le_refl _⟩ dL_law_575 ?_
                                          refine gq_lcmp X dL_law_578 ?_
                                          refine gq_if_eq (tgt := 584) X dL_law_579 (by decide) (fun _ => ?_) (fun h => absurd (by rw [show k_X6_digest F = r19.1 from (by rw [er19]; exact (hs_digest i F M hk hI).1)]; exact lw_cmp0 _) h)
                                          refine gq_iinc (lv' := [(3, .int (nI (5 * (i + 1)))), (2, .ref (b 0)), (1, .ref (a 0)), (0, .ref q)]) X dL_law_584 0 rfl (by rw [show 5 * (i + 1) = 5 * i + 5 by omega]; exact nI_add (5 * i) 5) (by decide) rfl ?_
                                          refine gq_goto (tgt := 18) X dL_law_587 (by decide) ?_
                                          exact ih (F, r19.2) hlt (by rw [er19]; exact (hs_digest i F M hk hI).2)
                                        · refine gq_tout (tgt := 584) X dL_law_32 (by have q0 := lv_neT h32_0 (show (0 : Int32).toInt = 0 by decide); have q1 := lv_neT h32_1 (show (1 : Int32).toInt = 1 by decide); have q2 := lv_neT h32_2 (show (2 : Int32).toInt = 2 by decide); have q3 := lv_neT h32_3 (show (3 : Int32).toInt = 3 by decide); have q4 := lv_neT h32_4 (show (4 : Int32).toInt = 4 by decide); have q5 := lv_neT h32_5 (show (5 : Int32).toInt = 5 by decide); have q6 := lv_neT h32_6 (show (6 : Int32).toInt = 6 by decide); have q7 := lv_neT h32_7 (show (7 : Int32).toInt = 7 by decide); have q8 := lv_neT h32_8 (show (8 : Int32).toInt = 8 by decide); have q9 := lv_neT h32_9 (show (9 : Int32).toInt = 9 by decide); have q10 := lv_neT h32_10 (show (10 : Int32).toInt = 10 by decide); have q11 := lv_neT h32_11 (show (11 : Int32).toInt = 11 by decide); have q12 := lv_neT h32_12 (show (12 : Int32).toInt = 12 by decide); have q13 := lv_neT h32_13 (show (13 : Int32).toInt = 13 by decide); have q14 := lv_neT h32_14 (show (14 : Int32).toInt = 14 by decide); have q15 := lv_neT h32_15 (show (15 : Int32).toInt = 15 by decide); have q16 := lv_neT h32_16 (show (16 : Int32).toInt = 16 by decide); have q17 := lv_neT h32_17 (show (17 : Int32).toInt = 17 by decide); have q18 := lv_neT h32_18 (show (18 : Int32).toInt = 18 by decide); omega) (by decide) ?_
                                          refine gq_iinc (lv' := [(3, .int (nI (5 * (i + 1)))), (2, .ref (b 0)), (1, .ref (a 0)), (0, .ref q)]) X dL_law_584 0 rfl (by rw [show 5 * (i + 1) = 5 * i + 5 by omega]; exact nI_add (5 * i) 5) (by decide) rfl ?_
                                          refine gq_goto (tgt := 18) X dL_law_587 (by decide) ?_
                                          exact ih (F, M) hlt (hs_none i F M hk hI)
  · refine gq_icmp_gt (tgt := 590) X dL_law_23 (by decide) (fun _ => ?_) (fun h => absurd (lw_out hL hge hi) h)
    refine gq_iconst (v := 1) X dL_law_590 gq_i1 ?_
    exact gq_lawret X dL_law_591
