section GQR2
variable {p : Program} {l : Launch} {e : Env} {R : Room} {s : State} {m : MethodId} {args : Array Value} {below : List Frame} {meth : Method} {c : Code} {cells slots : Nat} {Z : State → Prop}
variable {cc : ByteArray} {pc nL : Nat} {st : List Value} {lv : List (Nat × Value)} {ws : va_W} {Ts : List Cond} {own : String} {ret : Option FieldType} {D : va_G} {cA : ClassId} {A : Nat → Prop}
theorem gq_loopS {σ : Type} {N i0 : Nat} (I : Nat → σ → Prop) (ws : σ → va_W) (lv : Nat → List (Nat × Value)) (hi : i0 ≤ N) (s0 : σ) (h0 : I i0 s0) (step : ∀ (i : Nat) (t : σ), i ≤ N → i0 ≤ i → I i t → (∀ t' : σ, i < N → I (i + 1) t' → gq_V p l e R s m args below meth c nL D A cells slots Z (ws t') (lv (i + 1)) pc st) → gq_V p l e R s m args below meth c nL D A cells slots Z (ws t) (lv i) pc st) : gq_V p l e R s m args below meth c nL D A cells slots Z (ws s0) (lv i0) pc st := by
  have key : ∀ (k i : Nat) (t : σ), N - i = k → i ≤ N → i0 ≤ i → I i t → gq_V p l e R s m args below meth c nL D A cells slots Z (ws t) (lv i) pc st := by
    intro k
    induction k with
    | zero => intro i t h1 h2 h3 h4; exact step i t h2 h3 h4 (fun t' h => absurd h (by omega))
    | succ k ih => intro i t h1 h2 h3 h4; exact step i t h2 h3 h4 (fun t' h h5 => ih (i + 1) t' (by omega) (by omega) (by omega) h5)
  exact key (N - i0) i0 s0 rfl hi (Nat.le_refl _) h0
end GQR2
def gq_wh {σ : Type} (R : σ → Bool) (B : σ → σ) : Nat → σ → σ
  | 0, s => s
  | n + 1, s => if R s = true then gq_wh R B n (B s) else s
theorem gq_wh_f {σ : Type} {R : σ → Bool} {B : σ → σ} {s : σ} (h : R s = false) (n : Nat) : gq_wh R B n s = s := by
  cases n with
  | zero => rfl
  | succ n => rw [gq_wh, if_neg (by rw [h]; decide)]
theorem gq_wh_t {σ : Type} {R : σ → Bool} {B : σ → σ} {s : σ} (h : R s = true) (n : Nat) : gq_wh R B (n + 1) s = gq_wh R B n (B s) := if_pos h
theorem gq_wh_s {σ : Type} {R : σ → Bool} {B : σ → σ} {s : σ} {N i : Nat} (h : R s = true) (hi : i < N) : gq_wh R B (N - i) s = gq_wh R B (N - (i + 1)) (B s) := by
  rw [show N - i = (N - (i + 1)) + 1 by omega]
  exact gq_wh_t h _
theorem gq_wh_r {σ : Type} {R : σ → Bool} {B : σ → σ} : ∀ {i : Nat} {s : σ}, R (gq_wh R B i s) = true → gq_wh R B (i + 1) s = B (gq_wh R B i s)
  | 0, s, h => gq_wh_t (show R s = true from h) 0
  | i + 1, s, h => by
    by_cases h1 : R s = true
    · have e : gq_wh R B (i + 1) s = gq_wh R B i (B s) := gq_wh_t h1 i
      rw [e] at h ⊢
      rw [gq_wh_t h1 (i + 1)]
      exact gq_wh_r h
    · have h2 : R s = false := by cases hh : R s; rfl; exact absurd hh h1
      rw [gq_wh_f h2] at h
      rw [h2] at h
      cases h

