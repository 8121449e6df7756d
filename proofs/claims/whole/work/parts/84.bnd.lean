/-! ===== pure: the lower bound of a machine ===== -/
def x_hd (X : x_T) (k : Nat) : Nat := X (2 + X (42 + k)) + x_wk X (X (42 + k)) 0 (X (122 + k))
def x_tl (X : x_T) (k : Nat) : Nat := x_wk X (X (42 + k)) (X (122 + k) + 1) (X (17 + X (42 + k)) - (X (122 + k) + 1))
def x_om (X : x_T) (m : Nat) : Nat → Bool := fun k => decide (X (62 + k) = m)
theorem x_ct_s {K : Nat → Bool} (n : Nat) : x_ct K (n + 1) = x_ct K n + (if K n = true then 1 else 0) := rfl
theorem x_ct_mn {K : Nat → Bool} {a : Nat} : ∀ b, a ≤ b → x_ct K a ≤ x_ct K b
  | 0, h => by rw [show a = 0 by omega]; exact Nat.le_refl _
  | b + 1, h => by
    by_cases e : a = b + 1
    · subst e; exact Nat.le_refl _
    · have := x_ct_mn (K := K) (a := a) b (by omega)
      rw [x_ct_s]; omega
theorem x_kth {K : Nat → Bool} : ∀ n i, i < x_ct K n → ∃ k, k < n ∧ K k = true ∧ x_ct K k = i
  | 0, i, h => absurd h (Nat.not_lt_zero _)
  | n + 1, i, h => by
    rw [x_ct_s] at h
    by_cases e : i < x_ct K n
    · obtain ⟨k, a, b⟩ := x_kth n i e
      exact ⟨k, by omega, b⟩
    · cases hK : K n with
      | false => rw [hK] at h; exact absurd h (by simp; omega)
      | true => rw [hK] at h; exact ⟨n, by omega, hK, by simp at h; omega⟩
theorem x_ct_in {K : Nat → Bool} {a b : Nat} (ha : K a = true) (hb : K b = true) (e : x_ct K a = x_ct K b) : a = b := by
  have key : ∀ a b, K a = true → a < b → x_ct K a < x_ct K b := fun a b h1 h2 => by
    have := x_ct_mn (K := K) (a := a + 1) b h2
    rw [x_ct_s, if_pos h1] at this
    omega
  by_cases h : a = b
  · exact h
  · by_cases h2 : a < b
    · have := key a b ha h2; omega
    · have := key b a hb (by omega); omega
/-- as many operations as the order has -/
theorem x_om_n {X : x_T} (hw : x_wf X) {m : Nat} (hm : m < 4) : x_ct (x_om X m) (X 1) = X (179 + m) := by
  apply Nat.le_antisymm
  · have h : ∀ i, i < x_ct (x_om X m) (X 1) → ∃ p, p < X (179 + m) ∧ X (183 + 5 * m + p) < X 1 ∧ x_om X m (X (183 + 5 * m + p)) = true ∧ x_ct (x_om X m) (X (183 + 5 * m + p)) = i := fun i hi => by
      obtain ⟨k, a, b, c⟩ := x_kth _ i hi
      have b2 : X (62 + k) = m := of_decide_eq_true b
      obtain ⟨p, p1, p2⟩ := x_pos hw a
      rw [b2] at p1 p2
      exact ⟨p, p1, by rw [p2]; exact ⟨a, b, c⟩⟩
    refine x_pig _ _ (fun i => if hi : i < x_ct (x_om X m) (X 1) then Classical.choose (h i hi) else 0) (fun i hi => ?_) (fun i j hi hj e => ?_)
    · show dite _ _ _ < _
      rw [dif_pos hi]
      exact (Classical.choose_spec (h i hi)).1
    · have e : dite (i < x_ct (x_om X m) (X 1)) _ _ = dite (j < x_ct (x_om X m) (X 1)) _ _ := e
      rw [dif_pos hi, dif_pos hj] at e
      have q1 := (Classical.choose_spec (h i hi)).2.2.2
      have q2 := (Classical.choose_spec (h j hj)).2.2.2
      rw [← q1, ← q2, e]
  · refine x_pig _ _ (fun p => x_ct (x_om X m) (X (183 + 5 * m + p))) (fun p hp => ?_) (fun p q hp hq e => ?_)
    · have hod := x_od hw hm hp
      have h1 : x_om X m (X (183 + 5 * m + p)) = true := decide_eq_true hod.2
      have := x_ct_mn (K := x_om X m) (a := X (183 + 5 * m + p) + 1) (X 1) (by omega)
      rw [x_ct_s, if_pos h1] at this
      show x_ct _ _ < _
      omega
    · have a := x_od hw hm hp
      have b := x_od hw hm hq
      exact x_od1 hw hm hp hq (x_ct_in (K := x_om X m) (decide_eq_true a.2) (decide_eq_true b.2) e)
/-- what is processed at a time -/
def x_bh (X : x_T) (m : Nat) (lf : Nat → Nat) (t : Nat) : Nat → Option Nat
  | 0 => none
  | n + 1 => if X (62 + n) = m ∧ 0 < lf n ∧ x_hd X n ≤ t then (match x_bh X m lf t n with
      | none => some n
      | some b => if x_tl X b < x_tl X n then some n else some b) else x_bh X m lf t n
def x_bi (X : x_T) (m : Nat) : Nat → Nat → (Nat → Nat) → Nat → Nat → Nat
  | 0, _, _, _, bd => bd
  | f + 1, t, lf, left, bd => if left = 0 then bd else match x_bh X m lf t (X 1) with
    | none => x_bi X m f (t + 1) lf left bd
    | some b => if lf b = 1 then x_bi X m f (t + 1) (va_up lf b (lf b - 1)) (left - 1) (max bd (t + 1 + x_tl X b)) else x_bi X m f (t + 1) (va_up lf b (lf b - 1)) left bd
def x_bd (X : x_T) (m : Nat) : Nat := x_bi X m 1000 0 (fun k => X (82 + k)) (X (179 + m)) 0
theorem x_bh_no {X : x_T} {m : Nat} {lf : Nat → Nat} {t n : Nat} (h : ¬ (X (62 + n) = m ∧ 0 < lf n ∧ x_hd X n ≤ t)) : x_bh X m lf t (n + 1) = x_bh X m lf t n := by
  show (if _ then _ else _) = _
  rw [if_neg h]
theorem x_bh_n {X : x_T} {m : Nat} {lf : Nat → Nat} {t n : Nat} (h : X (62 + n) = m ∧ 0 < lf n ∧ x_hd X n ≤ t) (h2 : x_bh X m lf t n = none) : x_bh X m lf t (n + 1) = some n := by
  show (if _ then _ else _) = _
  rw [if_pos h, h2]
theorem x_bh_y {X : x_T} {m : Nat} {lf : Nat → Nat} {t n b : Nat} (h : X (62 + n) = m ∧ 0 < lf n ∧ x_hd X n ≤ t) (h2 : x_bh X m lf t n = some b) : x_bh X m lf t (n + 1) = if x_tl X b < x_tl X n then some n else some b := by
  show (if _ then _ else _) = _
  rw [if_pos h, h2]
theorem x_bh_ok {X : x_T} {m : Nat} {lf : Nat → Nat} {t : Nat} : ∀ n b, x_bh X m lf t n = some b → b < n ∧ X (62 + b) = m ∧ 0 < lf b
  | 0, b, h => by cases h
  | n + 1, b, h => by
    by_cases c : X (62 + n) = m ∧ 0 < lf n ∧ x_hd X n ≤ t
    · cases h2 : x_bh X m lf t n with
      | none => rw [x_bh_n c h2] at h; cases h; exact ⟨by omega, c.1, c.2.1⟩
      | some q =>
        rw [x_bh_y c h2] at h
        have ih := x_bh_ok n q h2
        by_cases c2 : x_tl X q < x_tl X n
        · rw [if_pos c2] at h; cases h; exact ⟨by omega, c.1, c.2.1⟩
        · rw [if_neg c2] at h; cases h; exact ⟨by omega, ih.2⟩
    · rw [x_bh_no c] at h
      have ih := x_bh_ok n b h
      exact ⟨by omega, ih.2⟩
theorem x_bh_ex {X : x_T} {m : Nat} {lf : Nat → Nat} {t : Nat} : ∀ n k, k < n → X (62 + k) = m → 0 < lf k → x_hd X k ≤ t → x_bh X m lf t n ≠ none
  | 0, k, h, _, _, _ => absurd h (by omega)
  | n + 1, k, h, h1, h2, h3 => by
    by_cases c : X (62 + n) = m ∧ 0 < lf n ∧ x_hd X n ≤ t
    · cases h4 : x_bh X m lf t n with
      | none => rw [x_bh_n c h4]; exact fun z => by cases z
      | some q => rw [x_bh_y c h4]; split <;> exact fun z => by cases z
    · rw [x_bh_no c]
      by_cases e : k = n
      · subst e; exact absurd ⟨h1, h2, h3⟩ c
      · exact x_bh_ex n k (by omega) h1 h2 h3
theorem x_bh_eq {X : x_T} {m : Nat} {lf : Nat → Nat} {t n : Nat} : ∀ k, n ≤ k → x_ct (x_om X m) n = x_ct (x_om X m) k → x_bh X m lf t n = x_bh X m lf t k
  | 0, h, _ => by rw [show n = 0 by omega]
  | k + 1, h, e => by
    by_cases e2 : n = k + 1
    · rw [e2]
    · have h1 := x_ct_mn (K := x_om X m) (a := n) k (by omega)
      rw [x_ct_s] at e
      cases hK : x_om X m k with
      | true => rw [hK] at e; exact absurd e (by simp; omega)
      | false =>
        rw [hK] at e
        have h2 : ¬ X (62 + k) = m := of_decide_eq_false hK
        rw [x_bh_no (fun z => h2 z.1)]
        exact x_bh_eq k (by omega) (by simpa using e)
theorem x_hd_le {X : x_T} (hw : y_wf X) {k : Nat} (hk : k < X 1) : x_hd X k ≤ 219 ∧ x_tl X k ≤ 120 := by
  have h := y_op hw hk
  have hj := y_jb hw h.2.2.1
  have h1 := x_wk_le hw h.2.2.1 (a := 0) (n := X (122 + k)) (by omega)
  have h2 := x_wk_le hw h.2.2.1 (a := X (122 + k) + 1) (n := X (17 + X (42 + k)) - (X (122 + k) + 1)) (by omega)
  unfold x_hd x_tl
  omega
/-- all of lower bounds: the machines', the jobs' -/
def x_mb (X : x_T) : Nat → Nat
  | 0 => 0
  | n + 1 => max (x_mb X n) (x_bd X n)
def x_jm (X : x_T) (b : Nat) : Nat → Nat
  | 0 => b
  | n + 1 => if X (17 + n) = 0 then x_jm X b n else max (x_jm X b n) (X (2 + n) + x_wk X n 0 (X (17 + n)))
def A_bound (z : z_T) (m : Int32) : a_T := if iLt m 4 = true then (0, nI (x_bd (z 0) (iN m)), z) else (1, 0, z)
def A_lowerBound (z : z_T) : a_T := (0, nI (x_jm (z 0) (x_mb (z 0) 4) (z 0 0)), z)
theorem x_bi_le {X : x_T} (hw : y_wf X) {m : Nat} : ∀ f t lf left bd, t + f ≤ 1000 → bd ≤ 1200 → x_bi X m f t lf left bd ≤ 1200
  | 0, _, _, _, bd, _, h => h
  | f + 1, t, lf, left, bd, h1, h => by
    unfold x_bi
    by_cases c : left = 0
    · rw [if_pos c]; exact h
    · rw [if_neg c]
      cases h2 : x_bh X m lf t (X 1) with
      | none => exact x_bi_le hw f _ _ _ _ (by omega) h
      | some b =>
        have hb := x_bh_ok _ _ h2
        have := x_hd_le hw hb.1
        dsimp only
        by_cases c2 : lf b = 1
        · rw [if_pos c2]; exact x_bi_le hw f _ _ _ _ (by omega) (by omega)
        · rw [if_neg c2]; exact x_bi_le hw f _ _ _ _ (by omega) h
theorem x_bd_le {X : x_T} (hw : y_wf X) {m : Nat} : x_bd X m ≤ 1200 := x_bi_le hw 1000 0 _ _ 0 (by omega) (by omega)
theorem x_mb_le {X : x_T} (hw : y_wf X) : ∀ n, x_mb X n ≤ 1200
  | 0 => by show 0 ≤ _; omega
  | n + 1 => by have h1 := x_mb_le hw n; have h2 := x_bd_le hw (m := n); show max _ _ ≤ _; omega
theorem x_jm_le {X : x_T} (hw : y_wf X) {b : Nat} (hb : b ≤ 1200) : ∀ n, n ≤ X 0 → x_jm X b n ≤ 1200
  | 0, _ => hb
  | n + 1, h => by
    have h1 := x_jm_le hw hb n (by omega)
    have hj := y_jb hw (j := n) (by omega)
    have h2 := x_wk_le hw (j := n) (a := 0) (n := X (17 + n)) (by omega) (by omega)
    show (if _ then _ else _) ≤ _
    split
    · exact h1
    · exact Nat.max_le.mpr ⟨h1, by omega⟩
