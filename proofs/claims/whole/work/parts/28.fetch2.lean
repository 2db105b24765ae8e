/-! the class's fetch in closed form -/
def RQp (Q : gs_Q) (fetched : Int32) (fA fG fC fH fR fS : gs_R) (acts depth c : Int32) : Prop := ∃ (f q n d : Nat) (age : Nat → Nat), f < 6 ∧ q + 1 ≤ d ∧ d ≤ 6 ∧ n ≤ 60 ∧ Q.2.2.2.2.2.2.1 = nI f ∧ Q.2.2.2.2.2.2.2 = nI q ∧ fetched = nI q ∧ acts = nI n ∧ depth = nI d ∧ (∀ j, j < q → RQs Q ((f + j) % 6) j fA fG fC fH fR fS ∧ (∃ a : Nat, a < n ∧ fA j = nI a) ∧ fC j = c - nI (age j) ∧ age j < d ∧ 1 ≤ age j ∧ ∀ i, i ≤ j → age j + j ≤ age i + i)
theorem rq_sub0 (c : Int32) : c = c - nI 0 := by
  rw [show nI 0 = 0 by decide]
  simp
theorem rqq_fetched {Q : gs_Q} {P : gs_P} {f q n d k : Nat} {age : Nat → Nat} {fA fG fC fH fR fS returns : gs_R} {x g c h returned acts depth : Int32} (hf : f < 6) (hqd : q + 1 ≤ d) (hd : d ≤ 6) (hn : n ≤ 60) (ea : acts = nI n) (ed : depth = nI d) (hk : k = (f + q) % 6) (hP : RRg P returned returns) (hh : vp_in h 16) (hx : vp_in x n)
    (old : ∀ j, j < q → RQs Q ((f + j) % 6) j fA fG fC fH fR fS ∧ (∃ a : Nat, a < n ∧ fA j = nI a) ∧ fC j = c - nI (age j) ∧ age j < d ∧ 1 ≤ age j ∧ ∀ i, i ≤ j → age j + j ≤ age i + i) :
    RQg (upd Q.1 k x, upd Q.2.1 k g, upd Q.2.2.1 k c, upd Q.2.2.2.1 k h, upd Q.2.2.2.2.1 k P.2, rup4 Q.2.2.2.2.2.1 k (k_X2_get 4 P 0) (k_X2_get 4 P 1) (k_X2_get 4 P 2) (k_X2_get 4 P 3), nI f, nI (q + 1)) (nI (q + 1)) (upd fA q x) (upd fG q g) (upd fC q c) (upd fH q h) (upd fR q returned) (rup4 fS q (returns 0) (returns 1) (returns 2) (returns 3)) acts depth c := by
  have new := rqq_new (x := x) (g := g) (c := c) (u1 := nI f) (u2 := nI (q + 1)) hf (by omega) hk hP hh (fun j hj => (old j hj).1)
  refine ⟨f, q + 1, n, d, fun j => if j = q then 0 else age j, hf, hqd, hd, by omega, hn, rfl, rfl, rfl, ea, ed, fun j hj => ⟨new j hj, ?_⟩⟩
  by_cases e : j = q
  · subst e
    simp only [rup_eq, if_true]
    obtain ⟨a, ha, rfl⟩ := vp_in_of hx (by omega)
    refine ⟨⟨a, ha, rfl⟩, rq_sub0 c, by omega, fun i hi => ?_⟩
    by_cases ei : i = j
    · rw [if_pos ei]; omega
    · rw [if_neg ei]
      obtain ⟨-, -, -, -, l1, l2⟩ := old (j - 1) (by omega)
      have := l2 i (by omega)
      omega
  · obtain ⟨-, o2, o3, o4, o5, o6⟩ := old j (by omega)
    simp only [rup_ne e, if_neg e]
    refine ⟨o2, o3, o4, fun i hi => ?_⟩
    rw [if_neg (by omega)]
    exact o6 i hi
