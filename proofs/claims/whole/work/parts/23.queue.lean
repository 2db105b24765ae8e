/-! the queue -/
theorem rl_rem6 : ∀ a, a < 12 → gq_rem (nI a) 6 = nI (a % 6) := by decide
theorem rl_min6 : ∀ q, q < 6 → gq_min 6 (nI q + 1) = nI (q + 1) := by decide
set_option maxHeartbeats 400000 in
theorem rqq_take {Q : gs_Q} {f q : Nat} (hf : f < 6) (h1 : Q.2.2.2.2.2.2.1 = nI f) (h2 : Q.2.2.2.2.2.2.2 = nI (q + 1)) (hq : q < 6) : k_X4_takeEldest Q = (nI f, (Q.1, Q.2.1, Q.2.2.1, Q.2.2.2.1, Q.2.2.2.2.1, Q.2.2.2.2.2.1, nI ((f + 1) % 6), nI q)) := by
  unfold k_X4_takeEldest
  simp only [gq_lt]
  rw [h1, h2, nI_pred, gq_maxN (by omega), nI_1, rl_rem6 _ (by omega)]
set_option maxHeartbeats 400000 in
theorem rqq_add {Q : gs_Q} {f q : Nat} {x c : Int32} (hf : f < 6) (h1 : Q.2.2.2.2.2.2.1 = nI f) (h2 : Q.2.2.2.2.2.2.2 = nI q) (hq : q < 6) : k_X4_add Q x c = (nI ((f + q) % 6), (upd Q.1 ((f + q) % 6) x, Q.2.1, upd Q.2.2.1 ((f + q) % 6) c, Q.2.2.2.1, Q.2.2.2.2.1, Q.2.2.2.2.2.1, nI f, nI (q + 1))) := by
  have hk : (f + q) % 6 < 6 := Nat.mod_lt _ (by decide)
  unfold k_X4_add
  simp only [gq_lt]
  rw [h1, h2, nI_add, rl_rem6 _ (by omega), rl_min6 _ hq, rs_in (vp_in_nI hk (by decide)) (by decide), rs_in (vp_in_nI hk (by decide)) (by decide), gq_cl (by omega)]
theorem rqq_guess {Q : gs_Q} {k : Nat} {x : Int32} (hk : k < 6) : k_X4_setGuess Q (nI k) x = (Q.1, upd Q.2.1 k x, Q.2.2.1, Q.2.2.2.1, Q.2.2.2.2.1, Q.2.2.2.2.2.1, Q.2.2.2.2.2.2.1, Q.2.2.2.2.2.2.2) := by
  unfold k_X4_setGuess
  simp only [gq_lt]
  rw [rs_in (vp_in_nI hk (by decide)) (by decide), gq_cl (by omega)]
theorem rqq_i4 (k t : Nat) : nI k * 4 + nI t = nI (4 * k + t) := by
  rw [show (4 : Int32) = nI 4 by decide, show nI k * nI 4 = nI (k * 4) from (Int32.ofNat_mul k 4).symm, nI_add, Nat.mul_comm]
theorem rqq_j4 (k t : Nat) : 4 * nI k + nI t = nI (4 * k + t) := by
  rw [show (4 : Int32) = nI 4 by decide, show nI 4 * nI k = nI (4 * k) from (Int32.ofNat_mul 4 k).symm, nI_add]
set_option maxHeartbeats 400000 in
theorem rqq_keep {Q : gs_Q} {P : gs_P} {k : Nat} {h : Int32} (hk : k < 6) : k_X4_keep (Q, P) (nI k) h = ((Q.1, Q.2.1, Q.2.2.1, upd Q.2.2.2.1 k h, upd Q.2.2.2.2.1 k P.2, upd (upd (upd (upd Q.2.2.2.2.2.1 (4 * k) (k_X2_get 4 P 0)) (4 * k + 1) (k_X2_get 4 P 1)) (4 * k + 2) (k_X2_get 4 P 2)) (4 * k + 3) (k_X2_get 4 P 3), Q.2.2.2.2.2.2.1, Q.2.2.2.2.2.2.2), P) := by
  have e0 : nI k * 4 + 0 = nI (4 * k) := rqq_i4 k 0
  have e1 : nI k * 4 + 1 = nI (4 * k + 1) := rqq_i4 k 1
  have e2 : nI k * 4 + 2 = nI (4 * k + 2) := rqq_i4 k 2
  have e3 : nI k * 4 + 3 = nI (4 * k + 3) := rqq_i4 k 3
  unfold k_X4_keep
  simp only [gq_lt, e0, e1, e2, e3, k_X2_size]
  rw [rs_in (vp_in_nI hk (by decide)) (by decide), rs_in (vp_in_nI hk (by decide)) (by decide), rs_in (vp_in_nI (by omega) (by omega)) (by decide), rs_in (vp_in_nI (by omega) (by omega)) (by decide), rs_in (vp_in_nI (by omega) (by omega)) (by decide), rs_in (vp_in_nI (by omega) (by omega)) (by decide), gq_cl (by omega), gq_cl (by omega), gq_cl (by omega), gq_cl (by omega), gq_cl (by omega)]
set_option maxHeartbeats 400000 in
theorem rqq_back {Q : gs_Q} {P : gs_P} {k r : Nat} (hk : k < 6) (hr : r ≤ 4) (h : Q.2.2.2.2.1 k = nI r) : (k_X4_giveReturnsBack (Q, P) (nI k)).1 = Q ∧ (k_X4_giveReturnsBack (Q, P) (nI k)).2.2 = nI r ∧ ∀ i, i < r → (k_X4_giveReturnsBack (Q, P) (nI k)).2.1 i = Q.2.2.2.2.2.1 (4 * k + i) := by
  have e0 : nI k * 4 + 0 = nI (4 * k) := rqq_i4 k 0
  have e1 : nI k * 4 + 1 = nI (4 * k + 1) := rqq_i4 k 1
  have e2 : nI k * 4 + 2 = nI (4 * k + 2) := rqq_i4 k 2
  have e3 : nI k * 4 + 3 = nI (4 * k + 3) := rqq_i4 k 3
  have eg : k_X5_get 6 Q.2.2.2.2.1 (nI k) = nI r := by rw [rg_in (vp_in_nI hk (by decide)) (by decide), gq_cl (by omega), h]
  have g : ∀ m, m < 24 → k_X5_get 24 Q.2.2.2.2.2.1 (nI m) = Q.2.2.2.2.2.1 m := fun m hm => by rw [rg_in (vp_in_nI hm (by decide)) (by decide), gq_cl (by omega)]
  unfold k_X4_giveReturnsBack
  simp only [gq_lt, k_X2_clear, e0, e1, e2, e3, eg]
  rw [g _ (by omega), g _ (by omega), g _ (by omega), g _ (by omega)]
  have q1 : ∀ x, k_X2_push 4 (P.1, (0 : Int32)) x = (true, (upd P.1 0 x, nI 1)) := fun x => rp2_push (S := (P.1, (0 : Int32))) (m := 4) (n := 0) rfl (by decide) (by decide)
  have q2 : ∀ (f : gs_R) x, k_X2_push 4 (f, nI 1) x = (true, (upd f 1 x, nI 2)) := fun f x => rp2_push (S := (f, nI 1)) (m := 4) (n := 1) rfl (by decide) (by decide)
  have q3 : ∀ (f : gs_R) x, k_X2_push 4 (f, nI 2) x = (true, (upd f 2 x, nI 3)) := fun f x => rp2_push (S := (f, nI 2)) (m := 4) (n := 2) rfl (by decide) (by decide)
  have q4 : ∀ (f : gs_R) x, k_X2_push 4 (f, nI 3) x = (true, (upd f 3 x, nI 4)) := fun f x => rp2_push (S := (f, nI 3)) (m := 4) (n := 3) rfl (by decide) (by decide)
  rcases (show r = 0 ∨ r = 1 ∨ r = 2 ∨ r = 3 ∨ r = 4 by omega) with rfl | rfl | rfl | rfl | rfl
  · rw [if_pos (by decide)]
    exact ⟨rfl, rfl, fun i hi => absurd hi (Nat.not_lt_zero _)⟩
  · rw [if_neg (by decide), if_pos (by decide)]
    simp only [q1, q2, q3, q4]
    refine ⟨trivial, trivial, fun i hi => ?_⟩
    rcases (show i = 0 by omega) with rfl
    rfl
  · rw [if_neg (by decide), if_neg (by decide), if_pos (by decide)]
    simp only [q1, q2, q3, q4]
    refine ⟨trivial, trivial, fun i hi => ?_⟩
    rcases (show i = 0 ∨ i = 1 by omega) with rfl | rfl <;> rfl
  · rw [if_neg (by decide), if_neg (by decide), if_neg (by decide), if_pos (by decide)]
    simp only [q1, q2, q3, q4]
    refine ⟨trivial, trivial, fun i hi => ?_⟩
    rcases (show i = 0 ∨ i = 1 ∨ i = 2 by omega) with rfl | rfl | rfl <;> rfl
  · rw [if_neg (by decide), if_neg (by decide), if_neg (by decide), if_neg (by decide)]
    simp only [q1, q2, q3, q4]
    refine ⟨trivial, trivial, fun i hi => ?_⟩
    rcases (show i = 0 ∨ i = 1 ∨ i = 2 ∨ i = 3 by omega) with rfl | rfl | rfl | rfl <;> rfl
/-- the first i places moved down by one -/
def rshl (A0 A : gs_R) (i : Nat) : Prop := ∀ j, (j + 1 < i → A j = A0 (j + 1)) ∧ (i ≤ j + 1 → A j = A0 j)
theorem rshl_1 (A : gs_R) : rshl A A 1 := fun j => ⟨fun h => absurd h (by omega), fun _ => rfl⟩
theorem rshl_s {A0 A : gs_R} {i : Nat} (h0 : 1 ≤ i) (h : rshl A0 A i) : rshl A0 (upd A (i - 1) (A i)) (i + 1) := by
  intro j
  unfold upd
  by_cases e : j = i - 1
  · rw [if_pos e]
    refine ⟨fun _ => ?_, fun q => absurd q (by omega)⟩
    rw [(h i).2 (by omega)]
    congr 1
    omega
  · rw [if_neg e]
    exact ⟨fun q => (h j).1 (by omega), fun q => (h j).2 (by omega)⟩
def rsh4 (A0 A : gs_R) (i : Nat) : Prop := ∀ m, (m / 4 + 1 < i → A m = A0 (m + 4)) ∧ (i ≤ m / 4 + 1 → A m = A0 m)
theorem rsh4_1 (A : gs_R) : rsh4 A A 1 := fun j => ⟨fun h => absurd h (by omega), fun _ => rfl⟩
theorem rsh4_s {A0 A : gs_R} {i : Nat} (h0 : 1 ≤ i) (h : rsh4 A0 A i) : rsh4 A0 (upd (upd (upd (upd A (4 * (i - 1)) (A (4 * i))) (4 * (i - 1) + 1) (A (4 * i + 1))) (4 * (i - 1) + 2) (A (4 * i + 2))) (4 * (i - 1) + 3) (A (4 * i + 3))) (i + 1) := by
  intro m
  have hA : ∀ t, t < 4 → A (4 * i + t) = A0 (4 * i + t) := fun t ht => (h (4 * i + t)).2 (by omega)
  unfold upd
  by_cases e3 : m = 4 * (i - 1) + 3
  · rw [if_pos e3, hA 3 (by omega)]
    exact ⟨fun _ => by congr 1; omega, fun q => absurd q (by omega)⟩
  rw [if_neg e3]
  by_cases e2 : m = 4 * (i - 1) + 2
  · rw [if_pos e2, hA 2 (by omega)]
    exact ⟨fun _ => by congr 1; omega, fun q => absurd q (by omega)⟩
  rw [if_neg e2]
  by_cases e1 : m = 4 * (i - 1) + 1
  · rw [if_pos e1, hA 1 (by omega)]
    exact ⟨fun _ => by congr 1; omega, fun q => absurd q (by omega)⟩
  rw [if_neg e1]
  by_cases e0 : m = 4 * (i - 1)
  · rw [if_pos e0, show A (4 * i) = A0 (4 * i) from hA 0 (by omega)]
    exact ⟨fun _ => by congr 1; omega, fun q => absurd q (by omega)⟩
  rw [if_neg e0]
  exact ⟨fun q => (h m).1 (by omega), fun q => (h m).2 (by omega)⟩
