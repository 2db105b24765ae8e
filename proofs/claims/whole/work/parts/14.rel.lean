/-! the pure part: numbers, the relation, the easy calls -/
theorem rl_i0 : gq_ix 0 = 0 := by decide
theorem rl_i1 : gq_ix 1 = 1 := by decide
theorem rl_i2 : gq_ix 2 = 2 := by decide
theorem rl_i3 : gq_ix 3 = 3 := by decide
theorem rl_i4 : gq_ix 4 = 4 := by decide
theorem rl_i5 : gq_ix 5 = 5 := by decide
theorem rl_i6 : gq_ix 6 = 6 := by decide
theorem rl_i7 : gq_ix 7 = 7 := by decide
theorem rl_i8 : gq_ix 8 = 8 := by decide
theorem rl_i12 : gq_ix 12 = 12 := by decide
theorem rl_i13 : gq_ix 13 = 13 := by decide
theorem rl_i14 : gq_ix 14 = 14 := by decide
theorem rg_in {n : Nat} {S : gs_R} {x : Int32} (h : vp_in x n) (hn : n < 2147483648) : k_X5_get n S x = S (gq_ix x) := by
  obtain ⟨j, hj, rfl⟩ := vp_in_of h hn
  unfold k_X5_get
  rw [if_neg (nI_pos (by omega)), if_neg (nI_ge hj (by omega))]
theorem rs_in {n : Nat} {S : gs_R} {x y : Int32} (h : vp_in x n) (hn : n < 2147483648) : k_X5_set n S x y = (S (gq_ix x), upd S (gq_ix x) y) := by
  obtain ⟨j, hj, rfl⟩ := vp_in_of h hn
  unfold k_X5_set
  rw [if_neg (nI_pos (by omega)), if_pos (nI_lt hj (by omega))]
  rfl
theorem ra_in {n : Nat} {S : gs_R} {x y : Int32} (h : vp_in x n) (hn : n < 2147483648) : k_X5_add n S x y = upd S (gq_ix x) (S (gq_ix x) + y) := by
  unfold k_X5_add
  rw [rs_in h hn, rg_in h hn]
  rfl
theorem rl_in {n : Nat} {x : Int32} (hn : n < 2 ^ 30) : k_X7_in x 0 (nI n - 1) = true ↔ vp_in x n := by
  have e : (nI n - nI 1).toInt = (n : Int) - (1 : Nat) := pk_sub_toInt hn (by decide)
  have e1 : nI 1 = 1 := by decide
  rw [e1] at e
  have e0 : (0 : Int32).toInt = 0 := by decide
  rw [vp_in_iff]
  unfold k_X7_in
  by_cases h1 : x < 0
  · rw [if_pos h1]
    rw [Int32.lt_iff_toInt_lt] at h1
    constructor
    · intro h; cases h
    · intro h; omega
  · rw [if_neg h1]
    rw [Int32.lt_iff_toInt_lt] at h1
    by_cases h2 : nI n - 1 < x
    · rw [if_pos h2]
      rw [Int32.lt_iff_toInt_lt] at h2
      constructor
      · intro h; cases h
      · intro h; omega
    · rw [if_neg h2]
      rw [Int32.lt_iff_toInt_lt] at h2
      constructor
      · intro _; omega
      · intro _; rfl
theorem rl_inb {x lo hi : Int32} : k_X7_in x lo hi = true ↔ lo.toInt ≤ x.toInt ∧ x.toInt ≤ hi.toInt := by
  unfold k_X7_in
  by_cases h1 : x < lo
  · rw [if_pos h1]
    rw [Int32.lt_iff_toInt_lt] at h1
    constructor
    · intro h; cases h
    · intro h; omega
  · rw [if_neg h1]
    rw [Int32.lt_iff_toInt_lt] at h1
    by_cases h2 : hi < x
    · rw [if_pos h2]
      rw [Int32.lt_iff_toInt_lt] at h2
      constructor
      · intro h; cases h
      · intro h; omega
    · rw [if_neg h2]
      rw [Int32.lt_iff_toInt_lt] at h2
      constructor
      · intro _; omega
      · intro _; rfl
theorem rl_le {n : Nat} {x : Int32} (hn : n < 2147483648) : nI n ≤ x ↔ (n : Int) ≤ x.toInt := by
  rw [Int32.le_iff_toInt_le, nI_toInt hn]
theorem rl_lt0 {x : Int32} : x < 0 ↔ x.toInt < 0 := by
  rw [Int32.lt_iff_toInt_lt]
  exact Iff.rfl
theorem rp_has {S : gs_P} {n : Nat} {x : Int32} (h : S.2 = nI n) (hn : n < 2147483648) : k_X3_has S x = true ↔ vp_in x n := by
  unfold k_X3_has
  rw [h, vp_in_iff]
  by_cases h1 : x < 0
  · rw [if_pos h1]
    rw [rl_lt0] at h1
    constructor
    · intro h; cases h
    · intro h; omega
  · rw [if_neg h1]
    rw [rl_lt0] at h1
    by_cases h2 : nI n ≤ x
    · rw [if_pos h2]
      rw [rl_le hn] at h2
      constructor
      · intro h; cases h
      · intro h; omega
    · rw [if_neg h2]
      rw [rl_le hn] at h2
      constructor
      · intro _; omega
      · intro _; rfl
theorem rp2_has {S : gs_P} {m n : Nat} {x : Int32} (h : S.2 = nI n) (hm : n ≤ m) (hn : m < 2147483648) : k_X2_has m S x = true ↔ vp_in x n := by
  unfold k_X2_has
  rw [h, vp_in_iff]
  by_cases h1 : x < 0
  · rw [if_pos h1]
    rw [rl_lt0] at h1
    constructor
    · intro h; cases h
    · intro h; omega
  · rw [if_neg h1]
    rw [rl_lt0] at h1
    by_cases h2 : nI n ≤ x
    · rw [if_pos h2]
      rw [rl_le (by omega)] at h2
      constructor
      · intro h; cases h
      · intro h; omega
    · rw [if_neg h2]
      rw [rl_le (by omega)] at h2
      rw [if_neg (by rw [rl_le hn]; omega)]
      constructor
      · intro _; omega
      · intro _; rfl
theorem rp2_in {S : gs_P} {m n : Nat} {x : Int32} (h : S.2 = nI n) (hm : n ≤ m) (hn : m < 2147483648) (hx : vp_in x n) : k_X2_get m S x = S.1 (gq_ix x) := by
  unfold k_X2_get
  rw [if_pos ((rp2_has h hm hn).mpr hx)]
theorem rp2_out {S : gs_P} {m n : Nat} {x : Int32} (h : S.2 = nI n) (hm : n ≤ m) (hn : m < 2147483648) (hx : ¬ vp_in x n) : k_X2_get m S x = -1 := by
  unfold k_X2_get
  rw [if_neg (fun q => hx ((rp2_has h hm hn).mp q))]
theorem rp2_push {S : gs_P} {m n : Nat} {x : Int32} (h : S.2 = nI n) (hm : n < m) (hn : m < 2147483648) : k_X2_push m S x = (true, (upd S.1 n x, nI (n + 1))) := by
  unfold k_X2_push
  rw [h, if_neg (nI_pos (by omega)), if_pos (nI_lt hm (by omega)), gq_cl (by omega)]
  show (true, (upd S.1 n x, nI n + 1)) = _
  rw [nI_1]
theorem rp2_full {S : gs_P} {m : Nat} {x : Int32} (h : S.2 = nI m) (hn : m < 2147483648) : k_X2_push m S x = (false, S) := by
  unfold k_X2_push
  rw [h, if_neg (nI_pos (by omega)), if_neg (nI_nlt (Nat.le_refl _) (by omega))]
theorem rp2_pop {S : gs_P} {m n : Nat} (h : S.2 = nI (n + 1)) (hm : n < m) (hn : m < 2147483648) : k_X2_pop m S = (S.1 n, (S.1, nI n)) := by
  unfold k_X2_pop
  have e : S.2 - 1 = nI n := by rw [h]; exact nI_pred n
  rw [e, rp2_in h (by omega) hn (vp_in_nI (by omega) (by omega)), gq_cl (by omega), gq_maxN (by omega)]
  rfl
theorem rp2_pop0 {S : gs_P} {m : Nat} (h : S.2 = nI 0) (hn : m < 2147483648) : k_X2_pop m S = (-1, (S.1, nI 0)) := by
  unfold k_X2_pop
  rw [rp2_out (n := 0) h (Nat.zero_le _) hn (fun q => absurd (vp_in_iff.mp q) (by omega)), h, show gq_max 0 (nI 0 - 1) = nI 0 by decide]
  rfl
/-! the relation, in its parts -/
def RPg (P : gs_P) (acts : Int32) (ks as bs cs : gs_R) : Prop := (∃ n : Nat, n ≤ 60 ∧ P.2 = nI n ∧ acts = nI n ∧ ∀ j, j < n → P.1 (4 * j) = ks j ∧ P.1 (4 * j + 1) = as j ∧ P.1 (4 * j + 2) = bs j ∧ P.1 (4 * j + 3) = cs j) ∧ (∀ j, j < 60 → vp_in (as j) 8) ∧ ∀ j, j < 60 → vp_in (bs j) 8
def RCg (C : gs_C) (rg me sk : gs_R) (deep : Int32) : Prop := (∀ j, j < 8 → C.1 j = rg j) ∧ (∀ j, j < 16 → C.2.1 j = me j) ∧ ∃ d : Nat, d ≤ 16 ∧ C.2.2.2 = nI d ∧ deep = nI d ∧ ∀ j, j < d → C.2.2.1 j = sk j
def RTg (u1 u2 u3 u4 u5 u6 pl mx ch ta tk tg : gs_R) : Prop := (∀ j, j < 16 → u1 j = pl j ∧ vp_in (pl j) 4) ∧ (∀ j, j < 16 → u2 j = mx j ∧ vp_in (mx j) 4) ∧ (∀ j, j < 16 → u3 j = ch j ∧ vp_in (ch j) 4) ∧ (∀ j, j < 8 → u4 j = ta j) ∧ (∀ j, j < 8 → u5 j = tk j) ∧ ∀ j, j < 8 → u6 j = tg j
def RHg (h hist : Int32) : Prop := h = hist ∧ vp_in hist 16
def RRg (P : gs_P) (returned : Int32) (returns : gs_R) : Prop := ∃ r : Nat, r ≤ 4 ∧ P.2 = nI r ∧ returned = nI r ∧ ∀ j, j < r → P.1 j = returns j ∧ ¬ returns j = -1
/-- slot k of the queue is the reference's fetched action j -/
def RQs (Q : gs_Q) (k j : Nat) (fA fG fC fH fR fS : gs_R) : Prop := Q.1 k = fA j ∧ Q.2.1 k = fG j ∧ Q.2.2.1 k = fC j ∧ Q.2.2.2.1 k = fH j ∧ vp_in (fH j) 16 ∧ ∃ r : Nat, r ≤ 4 ∧ Q.2.2.2.2.1 k = nI r ∧ fR j = nI r ∧ ∀ i, i < r → Q.2.2.2.2.2.1 (4 * k + i) = fS (4 * j + i) ∧ ¬ fS (4 * j + i) = -1
def RQg (Q : gs_Q) (fetched : Int32) (fA fG fC fH fR fS : gs_R) (acts depth c : Int32) : Prop := ∃ (f q n d : Nat) (age : Nat → Nat), f < 6 ∧ q ≤ d ∧ d ≤ 6 ∧ 1 ≤ d ∧ n ≤ 60 ∧ Q.2.2.2.2.2.2.1 = nI f ∧ Q.2.2.2.2.2.2.2 = nI q ∧ fetched = nI q ∧ acts = nI n ∧ depth = nI d ∧ (∀ j, j < q → RQs Q ((f + j) % 6) j fA fG fC fH fR fS ∧ (∃ a : Nat, a < n ∧ fA j = nI a) ∧ fC j = c - nI (age j) ∧ age j < d ∧ ∀ i, i ≤ j → age j + j ≤ age i + i)
def RAg (fA fH fR : gs_R) : Prop := (∀ j, j < 8 → vp_in (fA j) 60) ∧ (∀ j, j < 8 → vp_in (fH j) 16) ∧ ∀ j, j < 8 → vp_in (fR j) 5
def RNg (cF cM : gs_R) : Prop := ∀ j, j < 15 → (j < 9 ∨ 12 ≤ j) → cF j = cM j
def RDg (B : Nat) (D : gs_P) (c1 : Int32) (doneAt : gs_R) : Prop := ∃ n : Nat, n ≤ B ∧ B < 1073741824 ∧ c1 = nI n ∧ D.2 = nI (min n 300) ∧ ∀ j, j < min n 300 → D.1 j = doneAt j
def RWg (wF wM dF dM pF pM : Int32) : Prop := wF = wM ∧ vp_in wM 4 ∧ dF = dM ∧ pF = pM
def RSg (run ended : Int32) (runs : Bool) (fetched : Int32) : Prop := run = ended ∧ (runs = true ↔ run = 0) ∧ (runs = false → fetched = 0)
def RelB (B : Nat) (F : gs_F) (M : gs_M) : Prop :=
  RPg (gF_prog F) (mg_acts M) (mg_kinds M) (mg_as M) (mg_bs M) (mg_cs M) ∧
  RCg (gF_core F) (mg_registers M) (mg_memory M) (mg_stack M) (mg_deep M) ∧
  RTg (gF_gues F).1 (gF_gues F).2.1 (gF_gues F).2.2.1 (gF_gues F).2.2.2.1 (gF_gues F).2.2.2.2.1 (gF_gues F).2.2.2.2.2.1 (mg_plain M) (mg_mixed M) (mg_choice M) (mg_targetAt M) (mg_targetKind M) (mg_target M) ∧
  RHg (gF_gues F).2.2.2.2.2.2.2 (mg_history M) ∧
  RRg (gF_gues F).2.2.2.2.2.2.1 (mg_returned M) (mg_returns M) ∧
  RQg (gF_queue F) (mg_fetched M) (mg_fetchAt M) (mg_fetchGuess M) (mg_fetchCycle M) (mg_fetchHistory M) (mg_fetchReturned M) (mg_fetchReturns M) (mg_acts M) (mg_depth M) (mg_counts M 0) ∧
  RAg (mg_fetchAt M) (mg_fetchHistory M) (mg_fetchReturned M) ∧
  RNg (gF_counts F) (mg_counts M) ∧
  RDg B (gF_done F) (mg_counts M 1) (mg_doneAt M) ∧
  RWg (gF_way F) (mg_way M) (gF_depth F) (mg_depth M) (gF_place F) (mg_place M) ∧
  RSg (gF_run F) (mg_ended M) (mg_runs M) (mg_fetched M)
theorem RelB.up {B B' : Nat} {F : gs_F} {M : gs_M} (h : RelB B F M) (hB : B ≤ B') (hB' : B' < 1073741824) : RelB B' F M := by
  obtain ⟨h1, h2, h3, h4, h5, h6, h7, h8, ⟨n, a1, a2, a3⟩, h10⟩ := h
  exact ⟨h1, h2, h3, h4, h5, h6, h7, h8, ⟨n, by omega, hB', a3⟩, h10⟩
theorem RelB.runs {B : Nat} {F : gs_F} {M : gs_M} (h : RelB B F M) : k_X6_isUnderWay F = mg_runs M := by
  obtain ⟨-, -, -, -, -, -, -, -, -, -, -, h2, -⟩ := h
  unfold k_X6_isUnderWay
  by_cases hr : gF_run F = 0
  · rw [if_pos hr, h2.mpr hr]
  · rw [if_neg hr]
    cases hm : mg_runs M with
    | true => exact absurd (h2.mp hm) hr
    | false => rfl
theorem RelB.lp {B : Nat} {F : gs_F} {M : gs_M} (h : RelB B F M) : LPw F M := by
  obtain ⟨⟨⟨n, n1, n2, n3, n4⟩, n5, n6⟩, ⟨-, -, d, d1, d2, d3, d4⟩, h3, ⟨-, hh⟩, ⟨r, r1, r2, r3, r4⟩, ⟨f, q, n', dd, age, q1, q2, q3, q4, q5, q6, q7, q8, q9, q10, q11⟩, ⟨a1, a2, a3⟩, h8, ⟨c, c1, c2, c3, c4⟩, h10, h11⟩ := h
  have e : n = n' := by
    rw [n3] at q9
    exact (nI_eq (by omega) (by omega)).mp q9
  subst e
  refine ⟨⟨⟨?_, hh, ?_, ?_⟩, a1, a2, a3, n5, n6, ?_, ?_, ?_⟩, ?_, ?_, ?_, ?_⟩
  · rw [n3]; exact vp_in_nI (by omega) (by omega)
  · rw [r3]; exact vp_in_nI (by omega) (by omega)
  · rw [q8]; exact vp_in_nI (by omega) (by omega)
  · rw [d3]; exact vp_in_nI (by omega) (by omega)
  · rcases Nat.eq_zero_or_pos q with z | z
    · left; rw [q8, z]; decide
    · right
      obtain ⟨-, ⟨a, ha, -⟩, -⟩ := q11 0 z
      rw [n3]
      exact nI_ne0 (by omega) (by omega)
  · rw [rl_i1, c3]; exact nI_pos (by omega)
  · show vp_in (gF_prog F).2 61
    rw [n2]; exact vp_in_nI (by omega) (by omega)
  · show vp_in (gF_core F).2.2.2 17
    rw [d2]; exact vp_in_nI (by omega) (by omega)
  · show vp_in (gF_queue F).2.2.2.2.2.2.2 9
    rw [q7]; exact vp_in_nI (by omega) (by omega)
  · show vp_in (gF_gues F).2.2.2.2.2.2.1.2 5
    rw [r2]; exact vp_in_nI (by omega) (by omega)
/-! the calls that only ask -/
theorem rh_ended {B : Nat} {F : gs_F} {M : gs_M} (h : RelB B F M) : k_X6_ended F = k_X7_ended M := h.2.2.2.2.2.2.2.2.2.2.1
theorem rh_stack {B : Nat} {F : gs_F} {M : gs_M} (x : Int32) (h : RelB B F M) : k_X6_stack F x = k_X7_stack M x := by
  obtain ⟨-, ⟨-, -, d, d1, d2, d3, d4⟩, -⟩ := h
  show k_X2_get 16 (gF_core F).2.2 x = k_X7_stack M x
  unfold k_X7_stack
  rw [d3]
  by_cases hx : vp_in x d
  · rw [if_pos ((rl_in (by omega)).mpr hx), rp2_in d2 d1 (by decide) hx]
    exact d4 _ (mv_ix hx)
  · rw [if_neg (fun q => hx ((rl_in (by omega)).mp q)), rp2_out d2 d1 (by decide) hx]
theorem rh_fetched {B : Nat} {F : gs_F} {M : gs_M} (x : Int32) (h : RelB B F M) : k_X6_fetched F x = k_X7_fetched M x := by
  obtain ⟨-, -, -, -, -, ⟨f, q, n', dd, age, q1, q2, q3, q4, q5, q6, q7, q8, q9, q10, q11⟩, -⟩ := h
  show k_X4_address (gF_queue F) x = k_X7_fetched M x
  unfold k_X4_address k_X7_fetched
  rw [q6, q7, q8]
  by_cases hx : vp_in x q
  · rw [if_pos ((rl_in (by omega)).mpr hx)]
    obtain ⟨j, hj, rfl⟩ := vp_in_of hx (by omega)
    rw [if_neg (nI_pos (by omega)), if_neg (nI_ge hj (by omega)), nI_add]
    have e : gq_rem (nI (f + j)) 6 = nI ((f + j) % 6) := by
      have h12 : ∀ a, a < 12 → gq_rem (nI a) 6 = nI (a % 6) := by decide
      exact h12 _ (by omega)
    rw [e, rg_in (vp_in_nI (Nat.mod_lt _ (by decide)) (by decide)) (by decide), gq_cl (by omega), gq_cl (by omega)]
    exact (q11 j hj).1.1
  · rw [if_neg (fun z => hx ((rl_in (by omega)).mp z))]
    by_cases h1 : x < 0
    · rw [if_pos h1]
    · rw [if_neg h1]
      by_cases h2 : nI q ≤ x
      · rw [if_pos h2]
      · exact absurd (gq_in h1 h2 (by omega)) hx
theorem rh_known {B : Nat} {F : gs_F} {M : gs_M} (h : RelB B F M) : k_X6_known F = k_X7_known M := by
  have hr := h.runs
  have hf := rh_fetched 0 h
  obtain ⟨-, -, -, -, -, ⟨f, q, n', dd, age, q1, q2, q3, q4, q5, q6, q7, q8, q9, q10, q11⟩, -, -, -, ⟨-, -, -, hp⟩, -⟩ := h
  unfold k_X6_known k_X7_known
  rw [hr]
  by_cases h1 : mg_runs M = true
  · rw [if_pos h1, if_pos h1, show k_X4_size (gF_queue F) = nI q from q7, q8]
    by_cases h2 : nI q ≤ 0
    · rw [if_pos h2, if_pos h2]; exact hp
    · rw [if_neg h2, if_neg h2]
      have h0 : 0 < q := by
        rcases Nat.eq_zero_or_pos q with z | z
        · subst z; exact absurd (by decide) h2
        · exact z
      refine Eq.trans hf ?_
      unfold k_X7_fetched
      rw [q8, if_pos ((rl_in (by omega)).mpr (show vp_in 0 q from vp_in_nI (n := 0) h0 (by omega)))]
  · rw [if_neg h1, if_neg h1]
theorem rh_done {B : Nat} {F : gs_F} {M : gs_M} (x : Int32) (h : RelB B F M) : k_X6_done F x = k_X7_done M x := by
  obtain ⟨-, -, -, -, -, -, -, -, ⟨n, n1, n2, n3, n4, n5⟩, -⟩ := h
  show k_X2_get 300 (gF_done F) x = k_X7_done M x
  unfold k_X7_done gq_lt
  rw [rl_i1, n3]
  have H : ∀ k : Nat, k = min n 300 → k_X2_get 300 (gF_done F) x = if k_X7_in x 0 (nI k - 1) = true then (mg_doneAt M) (gq_ix x) else -1 := by
    intro k hk
    rw [← hk] at n4 n5
    by_cases hx : vp_in x k
    · rw [if_pos ((rl_in (by omega)).mpr hx), rp2_in n4 (by omega) (by decide) hx]
      exact n5 _ (mv_ix hx)
    · rw [if_neg (fun q => hx ((rl_in (by omega)).mp q)), rp2_out n4 (by omega) (by decide) hx]
  by_cases h3 : 300 ≤ n
  · rw [if_pos (show (300 : Int32) ≤ nI n from nI_le (a := 300) h3 (by omega))]
    exact H 300 (by omega)
  · rw [if_neg (show ¬ (300 : Int32) ≤ nI n from nI_ge (b := 300) (by omega) (by decide))]
    exact H n (by omega)
theorem rh_told {B : Nat} {F : gs_F} {M : gs_M} (x y : Int32) (h : RelB B F M) : k_X6_told F x y = k_X7_told M x y := by
  obtain ⟨⟨⟨n, n1, n2, n3, n4⟩, -⟩, -⟩ := h
  unfold k_X6_told k_X7_told
  rw [n3]
  by_cases hx : vp_in x n
  · rw [if_pos ((rp_has n2 (by omega)).mpr hx), if_pos ((rl_in (by omega)).mpr hx), kv_in]
    obtain ⟨j, hj, rfl⟩ := vp_in_of hx (by omega)
    obtain ⟨b0, b1, b2, b3⟩ := n4 j hj
    have hp : ∀ i, i < 4 → k_X3_part (gF_prog F) (nI j) (nI i) = (gF_prog F).1 (4 * j + i) := by
      intro i hi
      unfold k_X3_part
      have e : nI j * 4 + nI i = nI (4 * j + i) := by
        rw [show (4 : Int32) = nI 4 by decide, show nI j * nI 4 = nI (j * 4) from (Int32.ofNat_mul j 4).symm, nI_add, Nat.mul_comm]
      rw [e, rg_in (vp_in_nI (by omega) (by omega)) (by decide), gq_cl (by omega)]
    rw [gq_cl (by omega)]
    by_cases y0 : y = 0
    · subst y0
      rw [if_pos (by decide), if_pos rfl]
      exact (hp 0 (by omega)).trans b0
    rw [if_neg y0]
    by_cases y1 : y = 1
    · subst y1
      rw [if_pos (by decide), if_pos rfl]
      exact (hp 1 (by omega)).trans b1
    rw [if_neg y1]
    by_cases y2 : y = 2
    · subst y2
      rw [if_pos (by decide), if_pos rfl]
      exact (hp 2 (by omega)).trans b2
    rw [if_neg y2]
    by_cases y3 : y = 3
    · subst y3
      rw [if_pos (by decide), if_pos rfl]
      exact (hp 3 (by omega)).trans b3
    rw [if_neg y3, if_neg]
    intro q
    obtain ⟨i, hi, rfl⟩ := vp_in_of (mv_in (n := 4) q rfl (by decide)) (by decide)
    have : ∀ i, i < 4 → nI i = 0 ∨ nI i = 1 ∨ nI i = 2 ∨ nI i = 3 := by decide
    rcases this i hi with z | z | z | z
    · exact y0 z
    · exact y1 z
    · exact y2 z
    · exact y3 z
  · rw [if_neg (fun q => hx ((rp_has n2 (by omega)).mp q)), if_neg (fun q => hx ((rl_in (by omega)).mp q))]
