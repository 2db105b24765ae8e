/-! the reference's run, with what its walk wants only where it goes round -/
set_option maxHeartbeats 4000000 in
set_option maxRecDepth 100000 in
theorem c_X7_run2 (l : Launch) (D : va_G) (cA : ClassId) (a : Nat → Nat) (S : gs_M) (x1 : Int32) (hR : k_X7_in x1 1 5000 = true → ∀ i, i < gq_ix x1 → mg_runs (gq_wh mg_runs k_X7_cycle i S) = true → mC (gq_wh mg_runs k_X7_cycle i S)) : gq_C l yX7_run wsX7_run ({ frames := 5, cells := 0, slots := 0, locals := 109 } : Room) D cA [.ref (a 0), .int x1] (gw_M cA a S) (some (.int (k_X7_run S x1).1)) (gw_M cA a ((k_X7_run S x1).2)) := by
  by_cases hin : k_X7_in x1 1 5000 = true
  · exact c_X7_run l D cA a S x1 (hR hin)
  · refine gq_openf (own := RX7) (lv := [(0, .ref (a 0)), (1, .int x1)]) (fun r : Int32 × gs_M => (some (.int r.1), gw_M cA a r.2)) (k_X7_run S x1) (by decide) rfl rfl (Nat.le_of_ble_eq_true rfl) rfl rfl rfl (fun p e s m args below meth c A X => ?_)
    unfold k_X7_run
    refine gq_iload_n X dX7_run_0 1 rfl ?_
    refine gq_iconst (v := 1) X dX7_run_1 gq_i1 ?_
    refine gq_sipush (v := 5000) X dX7_run_2 (by decide) ?_
    refine gq_callSr (ws' := gw_M cA a S) X (c_X7_in l D cA x1 1 5000) rfl ⟨rfl, rfl⟩ ⟨Nat.le_of_ble_eq_true rfl, Nat.le_of_ble_eq_true rfl⟩ gX7_run_X7_in hd_X7_in [] rfl (by decide) rfl rfl rfl rfl (Nat.le_of_ble_eq_true rfl) ⟨Nat.zero_le _, Nat.zero_le _⟩ dX7_run_5 ?_
    refine gq_fbif_ne (tgt := 14) X dX7_run_8 (by decide) (fun h8 => absurd h8 hin) (fun h8 => ?_)
    refine gq_bipush (v := (-102)) X dX7_run_11 (by decide) ?_
    exact gq_iretf X dX7_run_13 rfl rfl
