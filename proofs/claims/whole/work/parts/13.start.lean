set_option maxRecDepth 200000 in
theorem NL_6_1 : Cond.classLink RL 7 RX6 ∈ wsL_law := by decide +kernel
set_option maxRecDepth 200000 in
theorem NL_6_2 : Cond.instantiable RX6 10 ∈ wsL_law := by decide +kernel
set_option maxRecDepth 200000 in
theorem NL_6_3 : Cond.initialized RX6 ∈ wsL_law := by decide +kernel
set_option maxRecDepth 200000 in
theorem VL_6_1 : Cond.initialized yX6_init.cls ∈ wsL_law := by decide +kernel
set_option maxRecDepth 200000 in
theorem VL_6_2 : Cond.instanceMethod yX6_init ∈ wsL_law := by decide +kernel
set_option maxRecDepth 200000 in
theorem VL_6_3 : Cond.methodLink RL 9 yX6_init ∈ wsL_law := by decide +kernel
set_option maxRecDepth 200000 in
theorem NL_7_1 : Cond.classLink RL 10 RX7 ∈ wsL_law := by decide +kernel
set_option maxRecDepth 200000 in
theorem NL_7_2 : Cond.instantiable RX7 34 ∈ wsL_law := by decide +kernel
set_option maxRecDepth 200000 in
theorem NL_7_3 : Cond.initialized RX7 ∈ wsL_law := by decide +kernel
set_option maxRecDepth 200000 in
theorem VL_7_1 : Cond.initialized yX7_init.cls ∈ wsL_law := by decide +kernel
set_option maxRecDepth 200000 in
theorem VL_7_2 : Cond.instanceMethod yX7_init ∈ wsL_law := by decide +kernel
set_option maxRecDepth 200000 in
theorem VL_7_3 : Cond.methodLink RL 12 yX7_init ∈ wsL_law := by decide +kernel
set_option maxHeartbeats 8000000 in
set_option maxRecDepth 200000 in
theorem lw_start {p : Program} {e : Env} {s : State} {m : MethodId} {below : List Frame} {meth : Method} {c : Code} (l : Launch) {b L : Nat} {xs : Nat → Int32} (C0 : lw_At p s m meth c b L xs)
    (K : ∀ (D : va_G) (cA : ClassId) (a b1 : Nat → Nat), gq_X p s m #[Value.ref b] meth c code 4 wsL_law RL ret D cA (fun x : Nat => s.heap.size ≤ x) → va_X b L xs s s.heap → b < s.heap.size → gq_V p l e room_1 s m #[Value.ref b] below meth c 4 D (fun x : Nat => s.heap.size ≤ x) 600000 7302250 (lw_Z below #[Value.ref b] s) (gw_Law cA a b1 (gi_F, gi_M)) [(3, .int (nI (5 * 0))), (2, .ref (b1 0)), (1, .ref (a 0)), (0, .ref b)] 18 []) :
    W p l e room_1 s m #[Value.ref b] below meth c s.heap [] 0 0 (lw_Z below #[Value.ref b] s) (entryFrame m ([Value.ref b] : List Value).toArray 4) := by
  obtain ⟨hx, hb, hr, hml, hown, hts, hX, hbl, hlocks, hgv⟩ := id C0
  have hA : ∀ q : Nat, s.heap.size ≤ q → (fun q : Nat => s.heap.size ≤ q) q := fun _ h => h
  obtain ⟨c0, i0, h0⟩ := u_known (C := RX0) (T := TX0) (N := 3) (n := 3) hts in_wsX00 (hts _ lw_i0)
  obtain ⟨c1, i1, h1⟩ := u_known (C := RX1) (T := TX1) (N := 8) (n := 8) hts in_wsX10 (hts _ lw_i1)
  obtain ⟨c2, i2, h2⟩ := u_known (C := RX2) (T := TX2) (N := 2) (n := 2) hts in_wsX20 (hts _ lw_i2)
  obtain ⟨c3, i3, h3⟩ := u_known (C := RX3) (T := TX3) (N := 2) (n := 2) hts in_wsX30 (hts _ lw_i3)
  obtain ⟨c4, i4, h4⟩ := u_known (C := RX4) (T := TX4) (N := 8) (n := 8) hts in_wsX40 (hts _ lw_i4)
  obtain ⟨c5, i5, h5⟩ := u_known (C := RX5) (T := TX5) (N := 1) (n := 1) hts in_wsX50 (hts _ lw_i5)
  obtain ⟨c6, i6, h6⟩ := u_known (C := RX6) (T := TX6) (N := 10) (n := 10) hts in_wsX60 (hts _ lw_i6)
  obtain ⟨c7, i7, h7⟩ := u_known (C := RX7) (T := TX7) (N := 34) (n := 34) hts in_wsX70 (hts _ lw_i7)
  obtain ⟨dC, dI, hKc⟩ : ∃ (dC : Nat → ClassId) (dI : Nat → Nat → Nat), ∀ (k : Nat) (q : vw_C), vwCl[k]? = some q → u_Kn s q.1 q.2.1 q.2.2 (dC k) (dI k) := by
    refine ⟨fun k => match k with | 0 => c0 | 1 => c1 | 2 => c2 | 3 => c3 | 4 => c4 | 5 => c5 | 6 => c6 | _ => c7, fun k => match k with | 0 => i0 | 1 => i1 | 2 => i2 | 3 => i3 | 4 => i4 | 5 => i5 | 6 => i6 | _ => i7, ?_⟩
    intro k q hq
    match k, hq with
    | 0, hq => cases hq; exact h0
    | 1, hq => cases hq; exact h1
    | 2, hq => cases hq; exact h2
    | 3, hq => cases hq; exact h3
    | 4, hq => cases hq; exact h4
    | 5, hq => cases hq; exact h5
    | 6, hq => cases hq; exact h6
    | 7, hq => cases hq; exact h7
    | k + 8, hq => simp [vwCl] at hq
  obtain ⟨cA, kA, comp, hc1, hc2, hc3⟩ := Cond.arrayClass_spec (hts _ lw_arr)
  have hKA : va_K (dC, dI) vwCl [(cA, .int)] s := by
    refine ⟨hKc, fun k q h => ?_⟩
    match k, h with
    | 0, h =>
      cases h
      exact ⟨fun n z => ⟨fun k h => (by cases h), kA, hc2, comp, hc3⟩, hc1⟩
    | k + 1, h => simp at h
  have hK : gq_K (dC, dI) cA s := ⟨hKA, va_Nw.of rfl (hts _ lw_n1), va_Nw.of rfl (hts _ lw_n2), va_Nw.of rfl (hts _ lw_n3), va_Nw.of rfl (hts _ lw_n4), va_Nw.of rfl (hts _ lw_n5)⟩
  have X : gq_X p s m #[Value.ref b] meth c code 4 wsL_law RL ret (dC, dI) cA (fun x : Nat => s.heap.size ≤ x) := ⟨hx, hb, hml, hown, fun w hw => hts w (wsL_law_in w hw), hr, hlocks, hK, hA⟩
  have K0 := fun a b1 => K (dC, dI) cA a b1 X hX hbl
  have V : gq_V p l e room_1 s m #[Value.ref b] below meth c 4 (dC, dI) (fun x : Nat => s.heap.size ≤ x) 0 0 (lw_Z below #[Value.ref b] s) [] [(0, .ref b)] 0 [] := by
    refine gq_new (ci := 6) (fs := [.null, .null, .null, .null, .null, .null, .int 0, .int 0, .int 0, .int 0]) (C := RX6) (T := TX6) (N := 10) X inlX6 tyX6 tyX6_ok NL_6_1 NL_6_2 NL_6_3 rfl (fun j hj => by rcases (show j = 0 ∨ j = 1 ∨ j = 2 ∨ j = 3 ∨ j = 4 ∨ j = 5 ∨ j = 6 ∨ j = 7 ∨ j = 8 ∨ j = 9 by omega) with rfl | rfl | rfl | rfl | rfl | rfl | rfl | rfl | rfl | rfl <;> rfl) (Nat.le_of_ble_eq_true rfl) (Nat.le_of_ble_eq_true rfl) dL_law_0 (fun q1 => ?_)
    refine gq_dup X dL_law_3 rfl ?_
    refine gq_callI (wr := []) X (c_X6_init l (dC, dI) cA q1) rfl ⟨rfl, rfl⟩ ⟨Nat.le_of_ble_eq_true rfl, Nat.le_of_ble_eq_true rfl⟩ ggL_law_X6_init VL_6_1 VL_6_3 VL_6_2 rfl hd_X6_init [0] [] rfl rfl (by decide) (by decide) (by decide) rfl rfl (Nat.le_of_ble_eq_true rfl) ⟨Nat.le_of_ble_eq_true rfl, Nat.le_of_ble_eq_true rfl⟩ dL_law_4 (fun as1 => ?_)
    refine gq_eqw (ws' := gw_GF cA (fun k => (q1 :: as1).getD k 0) gi_F) rfl ?_
    refine gq_astore_n (lv' := [(1, .ref q1), (0, .ref b)]) X dL_law_7 (by decide) rfl ?_
    refine gq_new (ci := 7) (fs := [.int 0, .null, .null, .null, .null, .null, .null, .null, .int 0, .int 0, .int 0, .null, .null, .null, .int 0, .null, .null, .null, .null, .int 0, .int 0, .null, .null, .null, .null, .null, .null, .int 0, .int 0, .int 0, .null, .null, .null, .long 0]) (C := RX7) (T := TX7) (N := 34) X inlX7 tyX7 tyX7_ok NL_7_1 NL_7_2 NL_7_3 rfl (fun j hj => by rcases (show j = 0 ∨ j = 1 ∨ j = 2 ∨ j = 3 ∨ j = 4 ∨ j = 5 ∨ j = 6 ∨ j = 7 ∨ j = 8 ∨ j = 9 ∨ j = 10 ∨ j = 11 ∨ j = 12 ∨ j = 13 ∨ j = 14 ∨ j = 15 ∨ j = 16 ∨ j = 17 ∨ j = 18 ∨ j = 19 ∨ j = 20 ∨ j = 21 ∨ j = 22 ∨ j = 23 ∨ j = 24 ∨ j = 25 ∨ j = 26 ∨ j = 27 ∨ j = 28 ∨ j = 29 ∨ j = 30 ∨ j = 31 ∨ j = 32 ∨ j = 33 by omega) with rfl | rfl | rfl | rfl | rfl | rfl | rfl | rfl | rfl | rfl | rfl | rfl | rfl | rfl | rfl | rfl | rfl | rfl | rfl | rfl | rfl | rfl | rfl | rfl | rfl | rfl | rfl | rfl | rfl | rfl | rfl | rfl | rfl | rfl <;> rfl) (Nat.le_of_ble_eq_true rfl) (Nat.le_of_ble_eq_true rfl) dL_law_8 (fun q2 => ?_)
    refine gq_dup X dL_law_11 rfl ?_
    refine gq_callI (wr := gw_GF cA (fun k => (q1 :: as1).getD k 0) gi_F) X (c_X7_init l (dC, dI) cA q2) rfl ⟨rfl, rfl⟩ ⟨Nat.le_of_ble_eq_true rfl, Nat.le_of_ble_eq_true rfl⟩ ggL_law_X7_init VL_7_1 VL_7_3 VL_7_2 rfl hd_X7_init [43] [0, 1, 2, 3, 4, 5, 6, 7, 8, 9, 10, 11, 12, 13, 14, 15, 16, 17, 18, 19, 20, 21, 22, 23, 24, 25, 26, 27, 28, 29, 30, 31, 32, 33, 34, 35, 36, 37, 38, 39, 40, 41, 42] rfl rfl (by decide) (by decide) (by decide) rfl rfl (Nat.le_of_ble_eq_true rfl) ⟨Nat.le_of_ble_eq_true rfl, Nat.le_of_ble_eq_true rfl⟩ dL_law_12 (fun as2 => ?_)
    refine gq_eqw (ws' := gw_Law cA (fun k => (q1 :: as1).getD k 0) (fun k => (q2 :: as2).getD k 0) (gi_F, gi_M)) rfl ?_
    refine gq_astore_n (lv' := [(2, .ref q2), (1, .ref q1), (0, .ref b)]) X dL_law_15 (by decide) rfl ?_
    refine gq_iconst (v := 0) X dL_law_16 gq_i0 ?_
    refine gq_istore_n (lv' := [(3, .int 0), (2, .ref q2), (1, .ref q1), (0, .ref b)]) X dL_law_17 (by decide) rfl ?_
    refine gq_widen (k := 600000) (n := 7302250) (Nat.le_of_ble_eq_true rfl) (Nat.le_of_ble_eq_true rfl) ?_
    exact K0 (fun k => (q1 :: as1).getD k 0) (fun k => (q2 :: as2).getD k 0)
  have hl := lv_entry ([.ref b]) (n := 4) (Nat.le_of_ble_eq_true rfl)
  rw [lg_entry_eq]
  exact V s.heap [] _ (fun k q h => by simp at h) ⟨fun i j p q h => by simp at h, fun k q h => by simp at h⟩ va_S.rf hl

