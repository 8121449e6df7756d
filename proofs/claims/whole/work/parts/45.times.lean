/-! ===== pure: the times. A table of times is a set K of operations with ready times r and starts t that meet the equations, ranked so that what an operation waits for comes before it ===== -/
def x_jp (X : x_T) (o : Nat) : Option Nat := if X (122 + o) = 0 then none else some (X (22 + 4 * X (42 + o) + (X (122 + o) - 1)))
def x_pf (X : x_T) (m o : Nat) : Nat → Nat → Nat
  | 0, p => p
  | n + 1, p => if X (183 + 5 * m + p) = o then p else x_pf X m o n (p + 1)
/-- the place of an operation in the order of its machine -/
def x_po (X : x_T) (o : Nat) : Nat := x_pf X (X (62 + o)) o 5 0
theorem x_pf_at {X : x_T} {m o p0 : Nat} (he : X (183 + 5 * m + p0) = o) (hu : ∀ q, q < p0 → X (183 + 5 * m + q) ≠ o) : ∀ n p : Nat, p ≤ p0 → p0 < p + n → x_pf X m o n p = p0
  | 0, p, h1, h2 => absurd h2 (by omega)
  | n + 1, p, h1, h2 => by
    unfold x_pf
    by_cases e : p = p0
    · subst e
      rw [if_pos he]
    · rw [if_neg (hu p (by omega))]
      exact x_pf_at he hu n (p + 1) (by omega) (by omega)
theorem x_po_ok {X : x_T} (hw : x_wf X) {o : Nat} (ho : o < X 1) : x_po X o < X (179 + X (62 + o)) ∧ X (183 + 5 * X (62 + o) + x_po X o) = o := by
  obtain ⟨p, h1, h2⟩ := x_pos hw ho
  have hm := (x_op hw ho).2.2.2.2.2.2.1
  have hn := (x_mn hw hm).2
  have e : x_po X o = p := x_pf_at h2 (fun q hq h3 => by
    have := x_od1 hw hm (p := q) (p' := p) (by omega) h1 (h3.trans h2.symm)
    omega) 5 0 (Nat.zero_le _) (by omega)
  rw [e]
  exact ⟨h1, h2⟩
theorem x_po_eq {X : x_T} (hw : x_wf X) {m p : Nat} (hm : m < 4) (hp : p < X (179 + m)) : x_po X (X (183 + 5 * m + p)) = p := by
  obtain ⟨h1, h2⟩ := x_od hw hm hp
  obtain ⟨h3, h4⟩ := x_po_ok hw h1
  rw [h2] at h3 h4
  exact x_od1 hw hm h3 hp h4
def x_mp (X : x_T) (op : Nat → Bool) (o : Nat) : Option Nat := if op (X (62 + o)) = true ∨ x_po X o = 0 then none else some (X (183 + 5 * X (62 + o) + (x_po X o - 1)))
def x_rd (X : x_T) (op : Nat → Bool) (e : Nat → Nat) (o : Nat) : Nat :=
  max (max (X (2 + X (42 + o))) (match x_jp X o with | none => 0 | some q => e q)) (match x_mp X op o with | none => 0 | some q => e q + X (142 + 3 * X (102 + q) + X (102 + o)))
def x_sv (X : x_T) (hk : Option Nat) (hu r o : Nat) : Nat := x_fr X (X (62 + o)) (X (82 + o)) (if hk = some o then max r hu else r)
def x_TT (X : x_T) (op : Nat → Bool) (hk : Option Nat) (hu : Nat) (K : Nat → Bool) (r t rk : Nat → Nat) : Prop :=
  ∀ o, o < X 1 → K o = true → (∀ q, x_jp X o = some q → K q = true ∧ rk q < rk o) ∧ (∀ q, x_mp X op o = some q → K q = true ∧ rk q < rk o) ∧ r o = x_rd X op (fun q => t q + X (82 + q)) o ∧ t o = x_sv X hk hu (r o) o
def x_mx (X : x_T) (op : Nat → Bool) (K : Nat → Bool) : Prop := ∀ o, o < X 1 → (∀ q, x_jp X o = some q → K q = true) → (∀ q, x_mp X op o = some q → K q = true) → K o = true
theorem x_jp_lt {X : x_T} (hw : x_wf X) {o q : Nat} (ho : o < X 1) (h : x_jp X o = some q) : q < X 1 ∧ X (42 + q) = X (42 + o) ∧ X (122 + q) + 1 = X (122 + o) ∧ q = X (22 + 4 * X (42 + o) + (X (122 + o) - 1)) := by
  unfold x_jp at h
  have h1 := x_op hw ho
  by_cases e : X (122 + o) = 0
  · rw [if_pos e] at h; cases h
  · rw [if_neg e] at h
    cases h
    have h2 := x_rt hw h1.2.2.1 (i := X (122 + o) - 1) (by omega)
    exact ⟨h2.1, h2.2.1, by omega, rfl⟩
theorem x_mp_lt {X : x_T} (hw : x_wf X) {op : Nat → Bool} {o q : Nat} (ho : o < X 1) (h : x_mp X op o = some q) : q < X 1 ∧ X (62 + q) = X (62 + o) ∧ x_po X q + 1 = x_po X o ∧ op (X (62 + o)) = false := by
  unfold x_mp at h
  have h1 := x_op hw ho
  have h2 := x_po_ok hw ho
  by_cases e : op (X (62 + o)) = true ∨ x_po X o = 0
  · rw [if_pos e] at h; cases h
  · rw [if_neg e] at h
    cases h
    have h3 := x_od hw h1.2.2.2.2.2.2.1 (p := x_po X o - 1) (by omega)
    have h4 := x_po_eq hw h1.2.2.2.2.2.2.1 (p := x_po X o - 1) (by omega)
    exact ⟨h3.1, h3.2, by have : x_po X o ≠ 0 := fun q => e (Or.inr q); omega, by cases hb : op (X (62 + o)) with | true => exact absurd (Or.inl hb) e | false => rfl⟩
theorem x_rd_congr {X : x_T} {op : Nat → Bool} {e e' : Nat → Nat} {o : Nat} (h1 : ∀ q, x_jp X o = some q → e q = e' q) (h2 : ∀ q, x_mp X op o = some q → e q = e' q) : x_rd X op e o = x_rd X op e' o := by
  unfold x_rd
  cases hj : x_jp X o with
  | none => cases hm : x_mp X op o with
    | none => rfl
    | some q => rw [hm] at h2; simp only [h2 q rfl]
  | some q' => rw [hj] at h1; cases hm : x_mp X op o with
    | none => simp only [h1 q' rfl]
    | some q => rw [hm] at h2; simp only [h1 q' rfl, h2 q rfl]
theorem x_rd_mono {X : x_T} {op op' : Nat → Bool} {e e' : Nat → Nat} {o : Nat} (h1 : ∀ q, x_jp X o = some q → e q ≤ e' q) (h2 : ∀ q, x_mp X op o = some q → x_mp X op' o = some q ∧ e q ≤ e' q) : x_rd X op e o ≤ x_rd X op' e' o := by
  unfold x_rd
  have a1 : (match x_jp X o with | none => 0 | some q => e q) ≤ (match x_jp X o with | none => 0 | some q => e' q) := by
    cases hj : x_jp X o with
    | none => exact Nat.le_refl _
    | some q => exact h1 q hj
  have a2 : (match x_mp X op o with | none => 0 | some q => e q + X (142 + 3 * X (102 + q) + X (102 + o))) ≤ (match x_mp X op' o with | none => 0 | some q => e' q + X (142 + 3 * X (102 + q) + X (102 + o))) := by
    cases hm : x_mp X op o with
    | none => exact Nat.zero_le _
    | some q =>
      obtain ⟨b1, b2⟩ := h2 q hm
      rw [b1]
      show e q + _ ≤ e' q + _
      omega
  omega
theorem x_TT_agree {X : x_T} {op : Nat → Bool} {hk : Option Nat} {hu : Nat} {K K' : Nat → Bool} {r t rk r' t' rk' : Nat → Nat} (hw : x_wf X) (T1 : x_TT X op hk hu K r t rk) (T2 : x_TT X op hk hu K' r' t' rk') : ∀ n o, o < X 1 → rk o < n → K o = true → K' o = true → r o = r' o ∧ t o = t' o := by
  intro n
  induction n with
  | zero => intro o _ h; exact absurd h (by omega)
  | succ n ih =>
    intro o ho hr hK hK'
    obtain ⟨a1, a2, a3, a4⟩ := T1 o ho hK
    obtain ⟨b1, b2, b3, b4⟩ := T2 o ho hK'
    have e1 : r o = r' o := by
      rw [a3, b3]
      exact x_rd_congr (fun q hq => by have := (ih q (x_jp_lt hw ho hq).1 (by have := (a1 q hq).2; omega) (a1 q hq).1 (b1 q hq).1).2; show t q + _ = t' q + _; omega) (fun q hq => by have := (ih q (x_mp_lt hw ho hq).1 (by have := (a2 q hq).2; omega) (a2 q hq).1 (b2 q hq).1).2; show t q + _ = t' q + _; omega)
    exact ⟨e1, by rw [a4, b4, e1]⟩
theorem x_TT_sub {X : x_T} {op : Nat → Bool} {hk : Option Nat} {hu : Nat} {K K' : Nat → Bool} {r t rk : Nat → Nat} (hw : x_wf X) (T1 : x_TT X op hk hu K r t rk) (M2 : x_mx X op K') : ∀ n o, o < X 1 → rk o < n → K o = true → K' o = true := by
  intro n
  induction n with
  | zero => intro o _ h; exact absurd h (by omega)
  | succ n ih =>
    intro o ho hr hK
    obtain ⟨a1, a2, -, -⟩ := T1 o ho hK
    exact M2 o ho (fun q hq => ih q (x_jp_lt hw ho hq).1 (by have := (a1 q hq).2; omega) (a1 q hq).1) (fun q hq => ih q (x_mp_lt hw ho hq).1 (by have := (a2 q hq).2; omega) (a2 q hq).1)
theorem x_TT_one {X : x_T} {op : Nat → Bool} {hk : Option Nat} {hu : Nat} {K K' : Nat → Bool} {r t rk r' t' rk' : Nat → Nat} (hw : x_wf X) (T1 : x_TT X op hk hu K r t rk) (M1 : x_mx X op K) (T2 : x_TT X op hk hu K' r' t' rk') (M2 : x_mx X op K') : ∀ o, o < X 1 → K o = K' o ∧ (K o = true → r o = r' o ∧ t o = t' o) := by
  intro o ho
  have e : K o = K' o := by
    cases h1 : K o with
    | true => exact (x_TT_sub hw T1 M2 (rk o + 1) o ho (by omega) h1).symm
    | false =>
      cases h2 : K' o with
      | false => rfl
      | true => rw [x_TT_sub hw T2 M1 (rk' o + 1) o ho (by omega) h2] at h1; cases h1
  exact ⟨e, fun h => x_TT_agree hw T1 T2 (rk o + 1) o ho (by omega) h (by rw [← e]; exact h)⟩
/-- fewer orders, a shorter hold: nothing comes later -/
theorem x_TT_le {X : x_T} {op op' : Nat → Bool} {hk hk' : Option Nat} {hu hu' : Nat} {K K' : Nat → Bool} {r t rk r' t' rk' : Nat → Nat} (hw : x_wf X) (T1 : x_TT X op hk hu K r t rk) (T2 : x_TT X op' hk' hu' K' r' t' rk') (hop : ∀ m, op' m = true → op m = true) (hh : ∀ o, hk = some o → hk' = some o ∧ hu ≤ hu') : ∀ n o, o < X 1 → rk o < n → K o = true → K' o = true → r o ≤ r' o ∧ t o ≤ t' o := by
  intro n
  induction n with
  | zero => intro o _ h; exact absurd h (by omega)
  | succ n ih =>
    intro o ho hr hK hK'
    obtain ⟨a1, a2, a3, a4⟩ := T1 o ho hK
    obtain ⟨b1, b2, b3, b4⟩ := T2 o ho hK'
    have hmp : ∀ q, x_mp X op o = some q → x_mp X op' o = some q := fun q hq => by
      have h1 := (x_mp_lt hw ho hq).2.2.2
      unfold x_mp at hq ⊢
      by_cases e : op (X (62 + o)) = true ∨ x_po X o = 0
      · rw [if_pos e] at hq; cases hq
      · rw [if_neg e] at hq
        rw [if_neg (fun z => z.elim (fun z => e (Or.inl (hop _ z))) (fun z => e (Or.inr z)))]
        exact hq
    have e1 : r o ≤ r' o := by
      rw [a3, b3]
      exact x_rd_mono (fun q hq => by have := (ih q (x_jp_lt hw ho hq).1 (by have := (a1 q hq).2; omega) (a1 q hq).1 (b1 q hq).1).2; show t q + _ ≤ t' q + _; omega) (fun q hq => ⟨hmp q hq, by have := (ih q (x_mp_lt hw ho hq).1 (by have := (a2 q hq).2; omega) (a2 q hq).1 (b2 q (hmp q hq)).1).2; show t q + _ ≤ t' q + _; omega⟩)
    refine ⟨e1, ?_⟩
    rw [a4, b4]
    unfold x_sv
    refine x_fr_mono ?_
    by_cases e : hk = some o
    · obtain ⟨c1, c2⟩ := hh o e
      rw [if_pos e, if_pos c1]
      omega
    · rw [if_neg e]
      split <;> omega
/-- no time is beyond what its rank allows -/
theorem x_TT_bd {X : x_T} {op : Nat → Bool} {hk : Option Nat} {hu : Nat} {K : Nat → Bool} {r t rk : Nat → Nat} (hw : x_wf X) (T1 : x_TT X op hk hu K r t rk) : ∀ n o, o < X 1 → rk o < n → K o = true → r o ≤ 500 + hu + 40 * rk o + 9 ∧ t o + X (82 + o) ≤ 500 + hu + 40 * (rk o + 1) ∧ X (2 + X (42 + o)) ≤ r o ∧ r o ≤ t o := by
  intro n
  induction n with
  | zero => intro o _ h; exact absurd h (by omega)
  | succ n ih =>
    intro o ho hr hK
    obtain ⟨a1, a2, a3, a4⟩ := T1 o ho hK
    have h1 := x_op hw ho
    have h2 := x_jb hw h1.2.2.1
    have hr1 : r o ≤ 500 + hu + 40 * rk o + 9 ∧ X (2 + X (42 + o)) ≤ r o := by
      rw [a3]
      unfold x_rd
      dsimp only
      have c1 : (match x_jp X o with | none => 0 | some q => t q + X (82 + q)) ≤ 500 + hu + 40 * rk o := by
        cases hj : x_jp X o with
        | none => exact Nat.zero_le _
        | some q =>
          have := ih q (x_jp_lt hw ho hj).1 (by have := (a1 q hj).2; omega) (a1 q hj).1
          have := (a1 q hj).2
          show t q + X (82 + q) ≤ _
          omega
      have c2 : (match x_mp X op o with | none => 0 | some q => t q + X (82 + q) + X (142 + 3 * X (102 + q) + X (102 + o))) ≤ 500 + hu + 40 * rk o + 9 := by
        cases hm : x_mp X op o with
        | none => exact Nat.zero_le _
        | some q =>
          have hq := (x_mp_lt hw ho hm).1
          have := ih q hq (by have := (a2 q hm).2; omega) (a2 q hm).1
          have := (a2 q hm).2
          have := x_su hw (f := X (102 + q)) (g := X (102 + o)) (x_op hw hq).2.2.2.2.2.2.2.2.2 h1.2.2.2.2.2.2.2.2.2
          show t q + X (82 + q) + _ ≤ _
          omega
      constructor <;> omega
    have ht1 : t o ≤ 500 + hu + 40 * rk o + 9 ∧ r o ≤ t o := by
      rw [a4]
      unfold x_sv
      constructor
      · refine x_fr_le hw h1.2.2.2.2.2.2.1 (by omega) ?_
        split <;> omega
      · refine Nat.le_trans ?_ x_fr_ge
        split <;> omega
    omega
/-- how many are known -/
def x_ct (K : Nat → Bool) : Nat → Nat
  | 0 => 0
  | n + 1 => x_ct K n + (if K n = true then 1 else 0)
theorem x_ct_le {K : Nat → Bool} : ∀ n, x_ct K n ≤ n
  | 0 => Nat.le_refl _
  | n + 1 => by have := x_ct_le (K := K) n; unfold x_ct; split <;> omega
theorem x_ct_up {K : Nat → Bool} {k : Nat} (hk : K k = false) : ∀ n, x_ct (va_up K k true) n = x_ct K n + (if k < n then 1 else 0)
  | 0 => by simp [x_ct]
  | n + 1 => by
    have ih := x_ct_up hk n
    unfold x_ct
    rw [ih]
    by_cases e : n = k
    · subst e
      rw [va_up_s, hk]
      simp
    · rw [va_up_n e]
      by_cases h : k < n
      · rw [if_pos h, if_pos (show k < n + 1 by omega)]; omega
      · rw [if_neg h, if_neg (show ¬ k < n + 1 by omega)]; omega
theorem x_ct_all {K : Nat → Bool} : ∀ n, x_ct K n = n → ∀ k, k < n → K k = true
  | 0, _, k, hk => absurd hk (by omega)
  | n + 1, h, k, hk => by
    have h1 := x_ct_le (K := K) n
    unfold x_ct at h
    by_cases e : K n = true
    · rw [if_pos e] at h
      by_cases e2 : k = n
      · rw [e2]; exact e
      · exact x_ct_all n (by omega) k (by omega)
    · rw [if_neg e] at h; omega
theorem x_ct_full {K : Nat → Bool} : ∀ n, (∀ k, k < n → K k = true) → x_ct K n = n
  | 0, _ => rfl
  | n + 1, h => by unfold x_ct; rw [x_ct_full n (fun k hk => h k (by omega)), if_pos (h n (by omega))]
theorem x_ct_congr {K K' : Nat → Bool} : ∀ n, (∀ k, k < n → K k = K' k) → x_ct K n = x_ct K' n
  | 0, _ => rfl
  | n + 1, h => by unfold x_ct; rw [x_ct_congr n (fun k hk => h k (by omega)), h n (by omega)]
