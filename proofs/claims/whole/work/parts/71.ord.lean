/-! ===== pure: another order of one machine ===== -/
/-- X' is X but for the order of machine m, which has the same operations -/
def x_pr (X X' : x_T) (m : Nat) : Prop :=
  (∀ k, k < 183 + 5 * m ∨ 183 + 5 * m + X (179 + m) ≤ k → X' k = X k) ∧ (∀ p, p < X (179 + m) → ∃ q, q < X (179 + m) ∧ X' (183 + 5 * m + p) = X (183 + 5 * m + q)) ∧
  (∀ p p', p < X (179 + m) → p' < X (179 + m) → X' (183 + 5 * m + p) = X' (183 + 5 * m + p') → p = p') ∧ (∀ q, q < X (179 + m) → ∃ p, p < X (179 + m) ∧ X' (183 + 5 * m + p) = X (183 + 5 * m + q))
theorem x_pr_lo {X X' : x_T} {m : Nat} (h : x_pr X X' m) {k : Nat} (hk : k < 183) : X' k = X k := h.1 k (by omega)
theorem x_pr_ot {X X' : x_T} {m : Nat} (h : x_pr X X' m) (h5 : X (179 + m) ≤ 5) {m' p : Nat} (hm : m' ≠ m) (hp : p < 5) : X' (183 + 5 * m' + p) = X (183 + 5 * m' + p) := h.1 _ (by omega)
theorem x_pr_wf {X X' : x_T} {m : Nat} (hw : x_wf X) (hm : m < 4) (h : x_pr X X' m) : x_wf X' := by
  have h5 := (x_mn hw hm).2
  have lo : ∀ k, k < 183 → X' k = X k := fun k hk => x_pr_lo h hk
  obtain ⟨w1, w2, w3, w4, w5, w6, w7, w8, w9, w10⟩ := hw
  have hw : x_wf X := ⟨w1, w2, w3, w4, w5, w6, w7, w8, w9, w10⟩
  have e0 : X' 0 = X 0 := lo 0 (by omega)
  have e1 : X' 1 = X 1 := lo 1 (by omega)
  refine ⟨?_, ?_, fun j hj => ?_, fun j i hj hi => ?_, fun o ho => ?_, fun a b ha hb h1 h2 => ?_, fun f g hf hg => ?_, fun m' hm' => ?_, fun m' hm' => ?_, fun o ho => ?_⟩
  · show X' 0 ≤ 5; rw [e0]; exact w1
  · show X' 1 ≤ 20; rw [e1]; exact w2
  · have hj : j < X 0 := by rw [← e0]; exact hj
    have := x_sz hw
    show X' (2 + j) ≤ 99 ∧ X' (7 + j) ≤ 200 ∧ X' (12 + j) ≤ 9 ∧ X' (17 + j) ≤ 4
    rw [lo _ (by omega), lo _ (by omega), lo _ (by omega), lo _ (by omega)]
    exact w3 j hj
  · have hj : j < X 0 := by rw [← e0]; exact hj
    have hjb := x_jb hw hj
    have hi : i < X (17 + j) := by rw [← lo (17 + j) (by omega)]; exact hi
    have hr := x_rt hw hj hi
    show X' (22 + 4 * j + i) < X' 1 ∧ X' (42 + X' (22 + 4 * j + i)) = j ∧ X' (122 + X' (22 + 4 * j + i)) = i
    rw [lo (22 + 4 * j + i) (by omega), e1, lo (42 + _) (by omega), lo (122 + _) (by omega)]
    exact hr
  · have ho : o < X 1 := by rw [← e1]; exact ho
    have hp := x_op hw ho
    show X' (42 + o) < X' 0 ∧ X' (122 + o) < X' (17 + X' (42 + o)) ∧ X' (22 + 4 * X' (42 + o) + X' (122 + o)) = o ∧ X' (62 + o) < 4 ∧ 1 ≤ X' (82 + o) ∧ X' (82 + o) ≤ 30 ∧ X' (102 + o) < 3
    rw [lo (42 + o) (by omega), lo (122 + o) (by omega), lo (17 + _) (by omega), lo (22 + 4 * _ + _) (by omega), lo (62 + o) (by omega), lo (82 + o) (by omega), lo (102 + o) (by omega), e0]
    exact ⟨hp.2.2.1, hp.2.2.2.1, hp.2.2.2.2.2.1, hp.2.2.2.2.2.2.1, hp.2.2.2.2.2.2.2.1, hp.2.2.2.2.2.2.2.2.1, hp.2.2.2.2.2.2.2.2.2⟩
  · have ha : a < X 1 := by rw [← e1]; exact ha
    have hb : b < X 1 := by rw [← e1]; exact hb
    have h1 : X' (42 + a) = X' (42 + b) := h1
    have h2 : X' (62 + a) = X' (62 + b) := h2
    rw [lo _ (by have := x_sz hw; omega), lo _ (by have := x_sz hw; omega)] at h1 h2
    exact x_uq hw ha hb h1 h2
  · show X' (142 + 3 * f + g) ≤ 9
    rw [lo _ (by omega)]
    exact w7 f g hf hg
  · show X' (151 + m') ≤ 3 ∧ ∀ i, i < X' (151 + m') → X' (155 + 3 * m' + i) ≤ 400 ∧ 1 ≤ X' (167 + 3 * m' + i) ∧ X' (167 + 3 * m' + i) ≤ 60
    have hb := x_mn hw hm'
    rw [lo (151 + m') (by omega)]
    refine ⟨hb.1, fun i hi => ?_⟩
    rw [lo _ (by omega), lo _ (by omega)]
    exact x_br hw hm' hi
  · show X' (179 + m') ≤ 5 ∧ ∀ p, p < X' (179 + m') → X' (183 + 5 * m' + p) < X' 1 ∧ X' (62 + X' (183 + 5 * m' + p)) = m' ∧ ∀ p', p' < X' (179 + m') → X' (183 + 5 * m' + p) = X' (183 + 5 * m' + p') → p = p'
    have hb := x_mn hw hm'
    rw [lo (179 + m') (by omega), e1]
    refine ⟨hb.2, fun p hp => ?_⟩
    by_cases e : m' = m
    · subst e
      obtain ⟨q, hq, he⟩ := h.2.1 p hp
      have hod := x_od hw hm' hq
      rw [he]
      rw [lo (62 + _) (by have := x_sz hw; omega)]
      refine ⟨hod.1, hod.2, fun p' hp' he' => h.2.2.1 p p' hp hp' (by rw [he]; exact he')⟩
    · have hod := x_od hw hm' hp
      rw [x_pr_ot h h5 e (by omega), lo (62 + _) (by have := x_sz hw; omega)]
      refine ⟨hod.1, hod.2, fun p' hp' he' => ?_⟩
      rw [x_pr_ot h h5 e (by omega)] at he'
      exact x_od1 hw hm' hp hp' he'
  · have ho : o < X 1 := by rw [← e1]; exact ho
    have hs := x_sz hw
    have hop := x_op hw ho
    show ∃ p, p < X' (179 + X' (62 + o)) ∧ X' (183 + 5 * X' (62 + o) + p) = o
    rw [lo (62 + o) (by omega), lo (179 + X (62 + o)) (by omega)]
    obtain ⟨q, hq1, hq2⟩ := x_pos hw ho
    have hb := x_mn hw hop.2.2.2.2.2.2.1
    by_cases e : X (62 + o) = m
    · rw [e] at hq1 hq2 ⊢
      obtain ⟨p, hp1, hp2⟩ := h.2.2.2 q hq1
      exact ⟨p, hp1, hp2.trans hq2⟩
    · exact ⟨q, hq1, by rw [x_pr_ot h h5 e (by omega)]; exact hq2⟩
theorem x_pr_rf {X : x_T} {m : Nat} (hw : x_wf X) (hm : m < 4) : x_pr X X m := ⟨fun _ _ => rfl, fun p hp => ⟨p, hp, rfl⟩, fun _ _ hp hp' e => x_od1 hw hm hp hp' e, fun q hq => ⟨q, hq, rfl⟩⟩
theorem x_pr_tr {X X' X'' : x_T} {m : Nat} (h1 : x_pr X X' m) (h2 : x_pr X' X'' m) : x_pr X X'' m := by
  have e : X' (179 + m) = X (179 + m) := by
    by_cases hm : m < 4
    · exact h1.1 _ (by omega)
    · exact h1.1 _ (by omega)
  obtain ⟨a1, a2, a3, a4⟩ := h1
  obtain ⟨b1, b2, b3, b4⟩ := h2
  rw [e] at b1 b2 b3 b4
  refine ⟨fun k hk => (b1 k hk).trans (a1 k hk), fun p hp => ?_, b3, fun q hq => ?_⟩
  · obtain ⟨q, hq, e1⟩ := b2 p hp
    obtain ⟨q2, hq2, e2⟩ := a2 q hq
    exact ⟨q2, hq2, e1.trans e2⟩
  · obtain ⟨p, hp, e1⟩ := a4 q hq
    obtain ⟨p2, hp2, e2⟩ := b4 p hp
    exact ⟨p2, hp2, e2.trans e1⟩
/-- two neighbours change their places -/
def x_sw (X : x_T) (m p : Nat) : x_T := va_up (va_up X (183 + 5 * m + p) (X (183 + 5 * m + (p + 1)))) (183 + 5 * m + (p + 1)) (X (183 + 5 * m + p))
theorem x_sw_at (X : x_T) (m p k : Nat) : x_sw X m p k = if k = 183 + 5 * m + (p + 1) then X (183 + 5 * m + p) else if k = 183 + 5 * m + p then X (183 + 5 * m + (p + 1)) else X k := rfl
theorem x_sw_pr {X : x_T} {m p : Nat} (hw : x_wf X) (hm : m < 4) (hp : p + 1 < X (179 + m)) : x_pr X (x_sw X m p) m := by
  have hn := (x_mn hw hm).2
  refine ⟨fun k hk => ?_, fun q hq => ?_, fun q q' hq hq' e => ?_, fun q hq => ?_⟩
  · rw [x_sw_at, if_neg (by omega), if_neg (by omega)]
  · rw [x_sw_at]
    by_cases e1 : q = p + 1
    · rw [if_pos (by omega)]; exact ⟨p, by omega, rfl⟩
    · by_cases e2 : q = p
      · rw [if_neg (by omega), if_pos (by omega)]; exact ⟨p + 1, by omega, rfl⟩
      · rw [if_neg (by omega), if_neg (by omega)]; exact ⟨q, hq, rfl⟩
  · have key : ∀ q, q < X (179 + m) → ∃ r, r < X (179 + m) ∧ x_sw X m p (183 + 5 * m + q) = X (183 + 5 * m + r) ∧ ((q = p + 1 ∧ r = p) ∨ (q = p ∧ r = p + 1) ∨ (q ≠ p ∧ q ≠ p + 1 ∧ r = q)) := fun q hq => by
      rw [x_sw_at]
      by_cases e1 : q = p + 1
      · rw [if_pos (by omega)]; exact ⟨p, by omega, rfl, by omega⟩
      · by_cases e2 : q = p
        · rw [if_neg (by omega), if_pos (by omega)]; exact ⟨p + 1, by omega, rfl, by omega⟩
        · rw [if_neg (by omega), if_neg (by omega)]; exact ⟨q, hq, rfl, by omega⟩
    obtain ⟨r, hr, e1, c1⟩ := key q hq
    obtain ⟨r', hr', e2, c2⟩ := key q' hq'
    rw [e1, e2] at e
    have := x_od1 hw hm hr hr' e
    omega
  · by_cases e1 : q = p + 1
    · exact ⟨p, by omega, by rw [x_sw_at, if_neg (by omega), if_pos (by omega), e1]⟩
    · by_cases e2 : q = p
      · exact ⟨p + 1, by omega, by rw [x_sw_at, if_pos (by omega), e2]⟩
      · exact ⟨q, hq, by rw [x_sw_at, if_neg (by omega), if_neg (by omega)]⟩
theorem x_sw_sw {X : x_T} {m p : Nat} : x_sw (x_sw X m p) m p = X := by
  funext k
  rw [x_sw_at, x_sw_at, x_sw_at, x_sw_at]
  by_cases e1 : k = 183 + 5 * m + (p + 1)
  · rw [if_pos e1, if_neg (by omega), if_pos rfl, e1]
  · by_cases e2 : k = 183 + 5 * m + p
    · rw [if_neg e1, if_pos e2, if_pos rfl, e2]
    · rw [if_neg e1, if_neg e2, if_neg e1, if_neg e2]
/-! ===== what has times with a cycle ===== -/
noncomputable def x_kk (X : x_T) : Nat → Bool := @dite (Nat → Bool) (∃ K : Nat → Bool, ∃ r t rk : Nat → Nat, x_TT X n0 none 0 K r t rk ∧ x_mx X n0 K) (Classical.propDecidable _) (fun h => Classical.choose h) (fun _ => n0)
theorem x_kk_eq {X : x_T} {hu : Nat} {K : Nat → Bool} {r t rk : Nat → Nat} (hw : x_wf X) (T : x_TT X n0 none hu K r t rk) (M : x_mx X n0 K) : ∀ o, o < X 1 → K o = x_kk X o := by
  have h : ∃ K : Nat → Bool, ∃ r t rk : Nat → Nat, x_TT X n0 none 0 K r t rk ∧ x_mx X n0 K := ⟨K, r, t, rk, x_TT_n T, M⟩
  intro o ho
  unfold x_kk
  rw [dif_pos h]
  obtain ⟨r', t', rk', T', M'⟩ := Classical.choose_spec h
  exact (x_TT_one hw (x_TT_n T) M T' M' o ho).1
/-- the first that is not in K -/
def x_fu (K : Nat → Bool) : Nat → Nat → Nat
  | 0, k => k
  | f + 1, k => if K k = false then k else x_fu K f (k + 1)
theorem x_fu_eq {K : Nat → Bool} {k0 : Nat} (h0 : K k0 = false) : ∀ f k, k ≤ k0 → k0 < k + f → (∀ q, k ≤ q → q < k0 → K q = true) → x_fu K f k = k0
  | 0, k, h1, h2, _ => absurd h2 (by omega)
  | f + 1, k, h1, h2, h3 => by
    unfold x_fu
    by_cases e : k = k0
    · subst e; rw [if_pos h0]
    · rw [if_neg (by rw [h3 k (by omega) (by omega)]; decide)]
      exact x_fu_eq h0 f (k + 1) (by omega) (by omega) (fun q h4 h5 => h3 q (by omega) h5)
/-- the failure of a cycle -/
noncomputable def z_cyc (z : z_T) (X : x_T) : z_T := va_up (va_up z 2 (va_up (z 2) 2 3)) 4 (va_up (va_up (va_up (z 4) 0 1) 1 (100 + x_fu (x_kk X) (X 1) 0)) 2 (X 1 - x_ct (x_kk X) (X 1)))
noncomputable def x_acb (X : x_T) : Bool := (x_sp X n0 none 0).isSome
theorem x_sp_hu {X : x_T} {hu : Nat} (hw : x_wf X) : (x_sp X n0 none hu).isSome = x_acb X := by
  unfold x_acb
  by_cases h : x_ac X n0
  · rw [x_sp_ac hw h, x_sp_ac hw h]; rfl
  · rw [x_sp_nac h, x_sp_nac h]
theorem x_acb_t {X : x_T} (h : x_acb X = true) : x_ac X n0 := by
  unfold x_acb at h
  cases e : x_sp X n0 none 0 with
  | none => rw [e] at h; cases h
  | some v => exact x_ac_sp e
theorem x_acb_i {X : x_T} (hw : x_wf X) (h : x_ac X n0) : x_acb X = true := by unfold x_acb; rw [x_sp_ac hw h]; rfl
theorem x_acb_f {X : x_T} {K : Nat → Bool} {hu : Nat} {r t rk : Nat → Nat} (hw : x_wf X) (h : x_acb X = false) (T : x_TT X n0 none hu K r t rk) (M : x_mx X n0 K) : ∃ k0, k0 < X 1 ∧ K k0 = false ∧ (∀ q, q < k0 → K q = true) ∧ k0 = x_fu (x_kk X) (X 1) 0 ∧ x_ct K (X 1) = x_ct (x_kk X) (X 1) := by
  have hne : ∃ k, k < X 1 ∧ K k = false := by
    apply Classical.byContradiction
    intro hn
    have hA : ∀ k, k < X 1 → K k = true := fun k hk => by
      cases e : K k with
      | true => rfl
      | false => exact absurd ⟨k, hk, e⟩ hn
    rw [x_acb_i hw ⟨rk, x_TT_rk T hA⟩] at h
    cases h
  have least : ∀ n, (∃ k, k < n ∧ k < X 1 ∧ K k = false) → ∃ k0, k0 < X 1 ∧ K k0 = false ∧ ∀ q, q < k0 → K q = true := by
    intro n
    induction n with
    | zero => rintro ⟨k, h1, -⟩; exact absurd h1 (by omega)
    | succ n ih =>
      rintro ⟨k, h1, h2, h3⟩
      by_cases e : ∃ k, k < n ∧ k < X 1 ∧ K k = false
      · exact ih e
      · refine ⟨k, h2, h3, fun q hq => ?_⟩
        cases e2 : K q with
        | true => rfl
        | false => exact absurd ⟨q, by omega, by omega, e2⟩ e
  obtain ⟨k1, h1, h2⟩ := hne
  obtain ⟨k0, a1, a2, a3⟩ := least (k1 + 1) ⟨k1, by omega, h1, h2⟩
  have q := x_kk_eq hw T M
  exact ⟨k0, a1, a2, a3, (x_fu_eq (by rw [← q k0 a1]; exact a2) (X 1) 0 (by omega) (by omega) (fun p _ hp => by rw [← q p (by omega)]; exact a3 p hp)).symm, x_ct_congr _ q⟩
