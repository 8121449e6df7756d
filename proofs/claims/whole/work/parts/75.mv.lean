/-! ===== pure: an operation moved within the order of its machine ===== -/
def x_mv (X : x_T) (m a b : Nat) : x_T := fun k => if k = 183 + 5 * m + b then X (183 + 5 * m + a) else if 183 + 5 * m + a ≤ k ∧ k < 183 + 5 * m + b then X (k + 1) else if 183 + 5 * m + b < k ∧ k ≤ 183 + 5 * m + a then X (k - 1) else X k
theorem x_mv_at (X : x_T) (m a b k : Nat) : x_mv X m a b k = if k = 183 + 5 * m + b then X (183 + 5 * m + a) else if 183 + 5 * m + a ≤ k ∧ k < 183 + 5 * m + b then X (k + 1) else if 183 + 5 * m + b < k ∧ k ≤ 183 + 5 * m + a then X (k - 1) else X k := rfl
theorem x_mv_rf {X : x_T} {m a : Nat} : x_mv X m a a = X := by
  funext k
  rw [x_mv_at]
  by_cases e : k = 183 + 5 * m + a
  · rw [if_pos e, e]
  · rw [if_neg e, if_neg (by omega), if_neg (by omega)]
theorem x_mv_up {X : x_T} {m a b : Nat} (h : a ≤ b) : x_sw (x_mv X m a b) m b = x_mv X m a (b + 1) := by
  funext k
  rw [x_sw_at, x_mv_at X m a (b + 1)]
  by_cases e1 : k = 183 + 5 * m + (b + 1)
  · rw [if_pos e1, if_pos e1, x_mv_at, if_pos rfl]
  · rw [if_neg e1, if_neg e1]
    by_cases e2 : k = 183 + 5 * m + b
    · rw [if_pos e2, if_pos (by omega), x_mv_at, if_neg (by omega), if_neg (by omega), if_neg (by omega), e2]
      rfl
    · rw [if_neg e2, x_mv_at, if_neg e2]
      by_cases e3 : 183 + 5 * m + a ≤ k ∧ k < 183 + 5 * m + b
      · rw [if_pos e3, if_pos (by omega)]
      · rw [if_neg e3, if_neg (by omega), if_neg (by omega), if_neg (by omega)]
theorem x_mv_dn {X : x_T} {m a b : Nat} (h : b + 1 ≤ a) : x_sw (x_mv X m a (b + 1)) m b = x_mv X m a b := by
  funext k
  rw [x_sw_at, x_mv_at X m a b]
  by_cases e1 : k = 183 + 5 * m + (b + 1)
  · rw [if_pos e1, if_neg (by omega), if_neg (by omega), if_pos (by omega), x_mv_at, if_neg (by omega), if_neg (by omega), if_neg (by omega), e1]
    rfl
  · rw [if_neg e1]
    by_cases e2 : k = 183 + 5 * m + b
    · rw [if_pos e2, if_pos e2, x_mv_at, if_pos rfl]
    · rw [if_neg e2, if_neg e2, x_mv_at, if_neg e1]
      by_cases e3 : 183 + 5 * m + b < k ∧ k ≤ 183 + 5 * m + a
      · rw [if_neg (by omega), if_pos (by omega), if_neg (by omega), if_pos e3]
      · rw [if_neg (by omega), if_neg (by omega), if_neg (by omega), if_neg e3]
theorem x_mv_back {X : x_T} {m a b : Nat} : x_mv (x_mv X m a b) m b a = X := by
  funext k
  rw [x_mv_at]
  by_cases e1 : k = 183 + 5 * m + a
  · rw [if_pos e1, x_mv_at, if_pos rfl, e1]
  · rw [if_neg e1]
    by_cases e2 : 183 + 5 * m + b ≤ k ∧ k < 183 + 5 * m + a
    · rw [if_pos e2, x_mv_at, if_neg (by omega), if_neg (by omega), if_pos (by omega), Nat.add_sub_cancel]
    · rw [if_neg e2]
      by_cases e3 : 183 + 5 * m + a < k ∧ k ≤ 183 + 5 * m + b
      · rw [if_pos e3, x_mv_at, if_neg (by omega), if_pos (by omega), Nat.sub_add_cancel (by omega)]
      · rw [if_neg e3, x_mv_at, if_neg (by omega), if_neg (by omega), if_neg (by omega)]
theorem x_mv_pr {X : x_T} {m a : Nat} (hw : x_wf X) (hm : m < 4) (ha : a < X (179 + m)) : ∀ b, b < X (179 + m) → x_pr X (x_mv X m a b) m := by
  have up : ∀ n, a + n < X (179 + m) → x_pr X (x_mv X m a (a + n)) m := by
    intro n
    induction n with
    | zero => intro _; rw [Nat.add_zero, x_mv_rf]; exact x_pr_rf hw hm
    | succ n ih =>
      intro h
      have h1 := ih (by omega)
      have h2 := x_pr_wf hw hm h1
      have h3 := x_sw_pr h2 hm (p := a + n) (by rw [x_pr_lo h1 (by omega)]; omega)
      rw [x_mv_up (by omega)] at h3
      exact x_pr_tr h1 h3
  have dn : ∀ n, n ≤ a → x_pr X (x_mv X m a (a - n)) m := by
    intro n
    induction n with
    | zero => intro _; rw [Nat.sub_zero, x_mv_rf]; exact x_pr_rf hw hm
    | succ n ih =>
      intro h
      have h1 := ih (by omega)
      have h2 := x_pr_wf hw hm h1
      have h3 := x_sw_pr h2 hm (p := a - (n + 1)) (by rw [x_pr_lo h1 (by omega)]; omega)
      rw [show a - n = a - (n + 1) + 1 by omega, x_mv_dn (by omega)] at h3
      rw [show a - n = a - (n + 1) + 1 by omega] at h1
      exact x_pr_tr h1 h3
  intro b hb
  by_cases e : a ≤ b
  · rw [show b = a + (b - a) by omega]; exact up _ (by omega)
  · rw [show b = a - (a - b) by omega]; exact dn _ (by omega)
