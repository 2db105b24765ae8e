/-! a new fetched action, in the queue's next slot and at the arrays' end -/
theorem rup_eq {f : gs_R} {k : Nat} {x : Int32} : upd f k x k = x := if_pos rfl
theorem rup_ne {f : gs_R} {k j : Nat} {x : Int32} (h : ¬ j = k) : upd f k x j = f j := if_neg h
def rup4 (f : gs_R) (k : Nat) (a b c d : Int32) : gs_R := upd (upd (upd (upd f (4 * k) a) (4 * k + 1) b) (4 * k + 2) c) (4 * k + 3) d
theorem rup4_ne {f : gs_R} {k m : Nat} {a b c d : Int32} (h : ¬ m / 4 = k) : rup4 f k a b c d m = f m := by
  unfold rup4
  rw [rup_ne (by omega), rup_ne (by omega), rup_ne (by omega), rup_ne (by omega)]
theorem rup4_0 {f : gs_R} {k : Nat} {a b c d : Int32} : rup4 f k a b c d (4 * k + 0) = a := by
  unfold rup4
  rw [rup_ne (by omega), rup_ne (by omega), rup_ne (by omega)]
  exact rup_eq
theorem rup4_1 {f : gs_R} {k : Nat} {a b c d : Int32} : rup4 f k a b c d (4 * k + 1) = b := by
  unfold rup4
  rw [rup_ne (by omega), rup_ne (by omega)]
  exact rup_eq
theorem rup4_2 {f : gs_R} {k : Nat} {a b c d : Int32} : rup4 f k a b c d (4 * k + 2) = c := by
  unfold rup4
  rw [rup_ne (by omega)]
  exact rup_eq
theorem rup4_3 {f : gs_R} {k : Nat} {a b c d : Int32} : rup4 f k a b c d (4 * k + 3) = d := rup_eq
theorem rqq_new {Q : gs_Q} {P : gs_P} {f q k : Nat} {fA fG fC fH fR fS returns : gs_R} {x g c h returned u1 u2 : Int32} (hf : f < 6) (hq : q < 6) (hk : k = (f + q) % 6) (hP : RRg P returned returns) (hh : vp_in h 16) (old : ∀ j, j < q → RQs Q ((f + j) % 6) j fA fG fC fH fR fS) :
    ∀ j, j < q + 1 → RQs (upd Q.1 k x, upd Q.2.1 k g, upd Q.2.2.1 k c, upd Q.2.2.2.1 k h, upd Q.2.2.2.2.1 k P.2, rup4 Q.2.2.2.2.2.1 k (k_X2_get 4 P 0) (k_X2_get 4 P 1) (k_X2_get 4 P 2) (k_X2_get 4 P 3), u1, u2) ((f + j) % 6) j (upd fA q x) (upd fG q g) (upd fC q c) (upd fH q h) (upd fR q returned) (rup4 fS q (returns 0) (returns 1) (returns 2) (returns 3)) := by
  intro j hj
  by_cases e : j = q
  · subst e
    rw [← hk]
    obtain ⟨r, r1, r2, r3, r4⟩ := hP
    unfold RQs
    simp only [rup_eq]
    refine ⟨trivial, trivial, trivial, trivial, hh, r, r1, r2, r3, fun i hi => ?_⟩
    have hg : ∀ t, t < r → k_X2_get 4 P (nI t) = returns t := fun t ht => by
      rw [rp2_in r2 r1 (by decide) (vp_in_nI ht (by omega)), gq_cl (by omega)]
      exact (r4 t ht).1
    rcases (show i = 0 ∨ i = 1 ∨ i = 2 ∨ i = 3 by omega) with rfl | rfl | rfl | rfl
    · rw [rup4_0, rup4_0]; exact ⟨hg 0 hi, (r4 0 hi).2⟩
    · rw [rup4_1, rup4_1]; exact ⟨hg 1 hi, (r4 1 hi).2⟩
    · rw [rup4_2, rup4_2]; exact ⟨hg 2 hi, (r4 2 hi).2⟩
    · rw [rup4_3, rup4_3]; exact ⟨hg 3 hi, (r4 3 hi).2⟩
  · have hj2 : j < q := by omega
    have hs : ¬ (f + j) % 6 = k := by omega
    obtain ⟨a1, a2, a3, a4, a5, r, r1, r2, r3, r4⟩ := old j hj2
    unfold RQs
    simp only [rup_ne e, rup_ne hs]
    refine ⟨a1, a2, a3, a4, a5, r, r1, r2, r3, fun i hi => ?_⟩
    rw [rup4_ne (by omega), rup4_ne (by omega)]
    exact r4 i hi
