/-! ===== pure: there is room ===== -/
theorem x_pig : ∀ (N n : Nat) (f : Nat → Nat), (∀ i, i < n → f i < N) → (∀ i j, i < n → j < n → f i = f j → i = j) → n ≤ N := by
  intro N
  induction N with
  | zero =>
    intro n f h1 _
    cases n with
    | zero => exact Nat.le_refl _
    | succ n => exact absurd (h1 0 (by omega)) (by omega)
  | succ N ih =>
    intro n f h1 h2
    by_cases h : ∃ i0, i0 < n ∧ f i0 = N
    · obtain ⟨i0, h3, h4⟩ := h
      have h5 := ih (n - 1) (fun i => if i < i0 then f i else f (i + 1)) (fun i hi => by
        show (if i < i0 then f i else f (i + 1)) < N
        by_cases e : i < i0
        · rw [if_pos e]
          have q1 := h1 i (by omega)
          have q2 : f i ≠ N := fun q => by have := h2 i i0 (by omega) h3 (q.trans h4.symm); omega
          omega
        · rw [if_neg e]
          have q1 := h1 (i + 1) (by omega)
          have q2 : f (i + 1) ≠ N := fun q => by have := h2 (i + 1) i0 (by omega) h3 (q.trans h4.symm); omega
          omega) (fun i j hi hj e => by
        have e : (if i < i0 then f i else f (i + 1)) = (if j < i0 then f j else f (j + 1)) := e
        by_cases a : i < i0 <;> by_cases b : j < i0
        · rw [if_pos a, if_pos b] at e; exact h2 i j (by omega) (by omega) e
        · rw [if_pos a, if_neg b] at e; have := h2 i (j + 1) (by omega) (by omega) e; omega
        · rw [if_neg a, if_pos b] at e; have := h2 (i + 1) j (by omega) (by omega) e; omega
        · rw [if_neg a, if_neg b] at e; have := h2 (i + 1) (j + 1) (by omega) (by omega) e; omega)
      omega
    · have h5 := ih n f (fun i hi => by
        have q1 := h1 i hi
        have q2 : f i ≠ N := fun q => h ⟨i, hi, q⟩
        omega) h2
      omega
theorem x_pig1 {N n p : Nat} {f : Nat → Nat} (h1 : ∀ i, i < n → f i < N) (h2 : ∀ i j, i < n → j < n → f i = f j → i = j) (hp : p < N) (h3 : ∀ i, i < n → f i ≠ p) : n < N := by
  have h := x_pig N (n + 1) (fun i => if i = n then p else f i) (fun i hi => by
    show (if i = n then p else f i) < N
    by_cases e : i = n
    · rw [if_pos e]; exact hp
    · rw [if_neg e]; exact h1 i (by omega)) (fun i j hi hj e => by
    have e : (if i = n then p else f i) = (if j = n then p else f j) := e
    by_cases a : i = n <;> by_cases b : j = n
    · omega
    · rw [if_pos a, if_neg b] at e; exact absurd e.symm (h3 j (by omega))
    · rw [if_neg a, if_pos b] at e; exact absurd e (h3 i (by omega))
    · rw [if_neg a, if_neg b] at e; exact h2 i j (by omega) (by omega) e)
  omega
theorem x_hm_iff {X : x_T} {j m : Nat} : ∀ n, x_hm X j m n = true ↔ ∃ i, i < n ∧ X (62 + X (22 + 4 * j + i)) = m
  | 0 => ⟨fun q => (by cases q), fun ⟨i, h, _⟩ => absurd h (by omega)⟩
  | n + 1 => by
    unfold x_hm
    rw [Bool.or_eq_true, x_hm_iff n, decide_eq_true_iff]
    constructor
    · rintro (⟨i, h1, h2⟩ | h)
      · exact ⟨i, by omega, h2⟩
      · exact ⟨n, by omega, h⟩
    · rintro ⟨i, h1, h2⟩
      by_cases e : i = n
      · subst e; exact Or.inr h2
      · exact Or.inl ⟨i, by omega, h2⟩
theorem x_uq {X : x_T} (h : x_wf X) {a b : Nat} (ha : a < X 1) (hb : b < X 1) (h1 : X (42 + a) = X (42 + b)) (h2 : X (62 + a) = X (62 + b)) : a = b := h.2.2.2.2.2.1 a b ha hb h1 h2
theorem x_room {X : x_T} (hw : x_wf X) {j m : Nat} (hj : j < X 0) (hm : m < 4) (h1 : X (17 + j) < 4) (h2 : x_hm X j m (X (17 + j)) = false) : X 1 < 20 ∧ X (179 + m) < 5 := by
  have hz := x_sz hw
  have h3 : ∀ o, o < X 1 → X (42 + o) = j → X (62 + o) ≠ m := fun o ho e q => by
    have h4 := x_op hw ho
    rw [e] at h4
    have h5 : x_hm X j m (X (17 + j)) = true := (x_hm_iff _).mpr ⟨X (122 + o), h4.2.2.2.1, by rw [h4.2.2.2.2.2.1]; exact q⟩
    rw [h2] at h5
    cases h5
  constructor
  · refine x_pig1 (N := 20) (p := 4 * j + X (17 + j)) (f := fun o => 4 * X (42 + o) + X (122 + o)) (fun o ho => ?_) (fun a b ha hb e => ?_) (by omega) (fun o ho e => ?_)
    · have := x_op hw ho
      show 4 * X (42 + o) + X (122 + o) < 20
      omega
    · have e : 4 * X (42 + a) + X (122 + a) = 4 * X (42 + b) + X (122 + b) := e
      have qa := x_op hw ha
      have qb := x_op hw hb
      have e1 : X (42 + a) = X (42 + b) := by omega
      have e2 : X (122 + a) = X (122 + b) := by omega
      rw [← qa.2.2.2.2.2.1, ← qb.2.2.2.2.2.1, e1, e2]
    · have e : 4 * X (42 + o) + X (122 + o) = 4 * j + X (17 + j) := e
      have qa := x_op hw ho
      have e1 : X (42 + o) = j := by omega
      rw [e1] at qa
      omega
  · refine x_pig1 (N := 5) (p := j) (f := fun p => X (42 + X (183 + 5 * m + p))) (fun p hp => ?_) (fun a b ha hb e => ?_) (by omega) (fun p hp e => ?_)
    · have := x_op hw (x_od hw hm hp).1
      show X (42 + X (183 + 5 * m + p)) < 5
      omega
    · have qa := x_od hw hm ha
      have qb := x_od hw hm hb
      exact x_od1 hw hm ha hb (x_uq hw qa.1 qb.1 e (qa.2.trans qb.2.symm))
    · have qa := x_od hw hm hp
      exact h3 _ qa.1 e qa.2
