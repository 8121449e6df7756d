/-! ===== pure: tabu search ===== -/
def t_ex (P : Nat → Bool) : Nat → Bool
  | 0 => false
  | n + 1 => t_ex P n || P n
theorem t_ex_i {P : Nat → Bool} : ∀ n, t_ex P n = true ↔ ∃ a, a < n ∧ P a = true
  | 0 => ⟨fun h => (by cases h), fun ⟨a, h, _⟩ => absurd h (by omega)⟩
  | n + 1 => by
    show (t_ex P n || P n) = true ↔ _
    rw [Bool.or_eq_true, t_ex_i n]
    constructor
    · rintro (⟨a, h1, h2⟩ | h)
      · exact ⟨a, by omega, h2⟩
      · exact ⟨n, by omega, h⟩
    · rintro ⟨a, h1, h2⟩
      by_cases e : a = n
      · subst e; exact Or.inr h2
      · exact Or.inl ⟨a, by omega, h2⟩
/-- two neighbours of a row follow each other on the path -/
noncomputable def t_sw (X : x_T) (m p : Nat) : Bool := decide (p + 1 < X (179 + m)) && t_ex (fun a => decide (a + 1 < x_pl X ∧ x_fw X a = X (183 + 5 * m + p) ∧ x_fw X (a + 1) = X (183 + 5 * m + (p + 1)))) 20
theorem t_sw_i {X : x_T} (hg : x_gd X) {m p : Nat} : t_sw X m p = true ↔ p + 1 < X (179 + m) ∧ ∃ a, a + 1 < x_pl X ∧ x_fw X a = X (183 + 5 * m + p) ∧ x_fw X (a + 1) = X (183 + 5 * m + (p + 1)) := by
  unfold t_sw
  rw [Bool.and_eq_true, t_ex_i, decide_eq_true_iff]
  have hp := (x_pl_ok hg).1
  have hs := x_sz hg.1
  constructor
  · rintro ⟨h1, a, _, h2⟩; exact ⟨h1, a, of_decide_eq_true h2⟩
  · rintro ⟨h1, a, h2⟩; exact ⟨h1, a, by omega, decide_eq_true h2⟩
/-- what a swap leads to, if it may be made -/
noncomputable def t_cd (X : x_T) (W : Nat → Nat → Nat) (st ten lst m p : Nat) : Option Nat := if t_sw X m p = true then (match x_sp (x_sw X m p) n0 none 0 with
    | none => none
    | some v => if 0 < W (X (183 + 5 * m + p)) (X (183 + 5 * m + (p + 1))) ∧ st ≤ W (X (183 + 5 * m + p)) (X (183 + 5 * m + (p + 1))) + ten ∧ lst ≤ v then none else some v) else none
theorem t_cd_n {X : x_T} {W : Nat → Nat → Nat} {st ten lst m p : Nat} (h : ¬ t_sw X m p = true) : t_cd X W st ten lst m p = none := by unfold t_cd; rw [if_neg h]
theorem t_cd_c {X : x_T} {W : Nat → Nat → Nat} {st ten lst m p : Nat} (h : x_sp (x_sw X m p) n0 none 0 = none) : t_cd X W st ten lst m p = none := by
  unfold t_cd
  by_cases e : t_sw X m p = true
  · rw [if_pos e, h]
  · rw [if_neg e]
theorem t_cd_f {X : x_T} {W : Nat → Nat → Nat} {st ten lst m p v : Nat} (h : x_sp (x_sw X m p) n0 none 0 = some v) (h2 : 0 < W (X (183 + 5 * m + p)) (X (183 + 5 * m + (p + 1))) ∧ st ≤ W (X (183 + 5 * m + p)) (X (183 + 5 * m + (p + 1))) + ten ∧ lst ≤ v) : t_cd X W st ten lst m p = none := by
  unfold t_cd
  by_cases e : t_sw X m p = true
  · rw [if_pos e, h]; exact if_pos h2
  · rw [if_neg e]
theorem t_cd_s {X : x_T} {W : Nat → Nat → Nat} {st ten lst m p v : Nat} (h0 : t_sw X m p = true) (h : x_sp (x_sw X m p) n0 none 0 = some v) (h2 : ¬ (0 < W (X (183 + 5 * m + p)) (X (183 + 5 * m + (p + 1))) ∧ st ≤ W (X (183 + 5 * m + p)) (X (183 + 5 * m + (p + 1))) + ten ∧ lst ≤ v)) : t_cd X W st ten lst m p = some v := by
  unfold t_cd
  rw [if_pos h0, h]; exact if_neg h2
theorem t_cd_ok {X : x_T} {W : Nat → Nat → Nat} {st ten lst m p v : Nat} (h : t_cd X W st ten lst m p = some v) : t_sw X m p = true ∧ x_sp (x_sw X m p) n0 none 0 = some v := by
  unfold t_cd at h
  by_cases e : t_sw X m p = true
  · rw [if_pos e] at h
    refine ⟨e, ?_⟩
    cases hv : x_sp (x_sw X m p) n0 none 0 with
    | none => rw [hv] at h; cases h
    | some w =>
      rw [hv] at h
      dsimp only at h
      split at h
      · cases h
      · exact h
  · rw [if_neg e] at h; cases h
/-- the first of the least of the first n -/
noncomputable def t_ch (X : x_T) (W : Nat → Nat → Nat) (st ten lst : Nat) : Nat → Option (Nat × Nat)
  | 0 => none
  | i + 1 => match t_cd X W st ten lst (i / 5) (i % 5) with
    | none => t_ch X W st ten lst i
    | some v => match t_ch X W st ten lst i with
      | none => some (i, v)
      | some c => if v < c.2 then some (i, v) else some c
theorem t_ch_no {X : x_T} {W : Nat → Nat → Nat} {st ten lst i : Nat} (h : t_cd X W st ten lst (i / 5) (i % 5) = none) : t_ch X W st ten lst (i + 1) = t_ch X W st ten lst i := by
  show (match t_cd X W st ten lst (i / 5) (i % 5) with
    | none => t_ch X W st ten lst i
    | some v => _) = _
  rw [h]
theorem t_ch_n {X : x_T} {W : Nat → Nat → Nat} {st ten lst i v : Nat} (h : t_cd X W st ten lst (i / 5) (i % 5) = some v) (h2 : t_ch X W st ten lst i = none) : t_ch X W st ten lst (i + 1) = some (i, v) := by
  show (match t_cd X W st ten lst (i / 5) (i % 5) with
    | none => t_ch X W st ten lst i
    | some v => match t_ch X W st ten lst i with
      | none => some (i, v)
      | some c => if v < c.2 then some (i, v) else some c) = _
  rw [h, h2]
theorem t_ch_y {X : x_T} {W : Nat → Nat → Nat} {st ten lst i v : Nat} {c : Nat × Nat} (h : t_cd X W st ten lst (i / 5) (i % 5) = some v) (h2 : t_ch X W st ten lst i = some c) : t_ch X W st ten lst (i + 1) = if v < c.2 then some (i, v) else some c := by
  show (match t_cd X W st ten lst (i / 5) (i % 5) with
    | none => t_ch X W st ten lst i
    | some v => match t_ch X W st ten lst i with
      | none => some (i, v)
      | some c => if v < c.2 then some (i, v) else some c) = _
  rw [h, h2]
theorem t_ch_ok {X : x_T} {W : Nat → Nat → Nat} {st ten lst : Nat} : ∀ n c, t_ch X W st ten lst n = some c → c.1 < n ∧ t_cd X W st ten lst (c.1 / 5) (c.1 % 5) = some c.2
  | 0, c, h => by cases h
  | n + 1, c, h => by
    cases hd : t_cd X W st ten lst (n / 5) (n % 5) with
    | none => rw [t_ch_no hd] at h; have q := t_ch_ok n c h; exact ⟨by omega, q.2⟩
    | some v =>
      cases hb : t_ch X W st ten lst n with
      | none => rw [t_ch_n hd hb] at h; cases h; exact ⟨by show n < n + 1; omega, hd⟩
      | some c' =>
        rw [t_ch_y hd hb] at h
        by_cases e : v < c'.2
        · rw [if_pos e] at h; cases h; exact ⟨by show n < n + 1; omega, hd⟩
        · rw [if_neg e] at h; cases h; have q := t_ch_ok n _ hb; exact ⟨by omega, q.2⟩
/-- places behind a row are passed over -/
theorem t_ch_sk {X : x_T} {W : Nat → Nat → Nat} {st ten lst m : Nat} : ∀ d p, p + d = 5 → X (179 + m) ≤ p + 1 → t_ch X W st ten lst (5 * m + p) = t_ch X W st ten lst (5 * m + 5)
  | 0, p, h, _ => by rw [show p = 5 by omega]
  | d + 1, p, h, h2 => by
    have q := t_ch_sk (X := X) (W := W) (st := st) (ten := ten) (lst := lst) (m := m) d (p + 1) (by omega) (by omega)
    rw [← q, show 5 * m + (p + 1) = 5 * m + p + 1 by omega]
    refine (t_ch_no ?_).symm
    rw [show (5 * m + p) / 5 = m by omega, show (5 * m + p) % 5 = p by omega]
    refine t_cd_n ?_
    unfold t_sw
    rw [decide_eq_false (by omega), Bool.false_and]
    exact fun z => by cases z
noncomputable def t_X (X : x_T) (i : Nat) : x_T := x_sw X (i / 5) (i % 5)
noncomputable def t_W (X : x_T) (W : Nat → Nat → Nat) (i st : Nat) : Nat → Nat → Nat := fun a b => if a = t_X X i (183 + 5 * (i / 5) + i % 5) ∧ b = t_X X i (183 + 5 * (i / 5) + (i % 5 + 1)) then st else W a b
/-- the steps: what is best, how many were made -/
noncomputable def t_lp (ten : Nat) : Nat → x_T → (Nat → Nat → Nat) → x_T → Nat → x_T × Nat
  | 0, _, _, Xb, md => (Xb, md)
  | r + 1, X, W, Xb, md => match t_ch X W (md + 1) ten (x_s0 Xb) 20 with
    | none => (Xb, md)
    | some c => t_lp ten r (t_X X c.1) (t_W X W c.1 (md + 1)) (if c.2 < x_s0 Xb then t_X X c.1 else Xb) (md + 1)
theorem t_lp_n {ten r md : Nat} {X Xb : x_T} {W : Nat → Nat → Nat} (h : t_ch X W (md + 1) ten (x_s0 Xb) 20 = none) : t_lp ten (r + 1) X W Xb md = (Xb, md) := by
  show (match t_ch X W (md + 1) ten (x_s0 Xb) 20 with
    | none => (Xb, md)
    | some c => _) = _
  rw [h]
theorem t_lp_s {ten r md : Nat} {X Xb : x_T} {W : Nat → Nat → Nat} {c : Nat × Nat} (h : t_ch X W (md + 1) ten (x_s0 Xb) 20 = some c) : t_lp ten (r + 1) X W Xb md = t_lp ten r (t_X X c.1) (t_W X W c.1 (md + 1)) (if c.2 < x_s0 Xb then t_X X c.1 else Xb) (md + 1) := by
  show (match t_ch X W (md + 1) ten (x_s0 Xb) 20 with
    | none => (Xb, md)
    | some c => t_lp ten r (t_X X c.1) (t_W X W c.1 (md + 1)) (if c.2 < x_s0 Xb then t_X X c.1 else Xb) (md + 1)) = _
  rw [h]
/-- what always holds: X the shop, Xb the best, X0 the first -/
def t_iv (X0 X Xb : x_T) (W : Nat → Nat → Nat) (md : Nat) : Prop := x_gd X ∧ x_gd Xb ∧ (∀ k, k < 183 → X k = X0 k ∧ Xb k = X0 k) ∧ (∀ a b, W a b ≤ 20) ∧ md ≤ 20
theorem x_s0_sp {X : x_T} (hg : x_gd X) : x_sp X n0 none 0 = some (x_s0 X) := x_sp_ac hg.1 hg.2
theorem t_c {X : x_T} {W : Nat → Nat → Nat} {st ten lst : Nat} {c : Nat × Nat} (hg : x_gd X) (h : t_ch X W st ten lst 20 = some c) : c.1 < 20 ∧ c.1 / 5 < 4 ∧ c.1 % 5 + 1 < X (179 + c.1 / 5) ∧ x_pr X (t_X X c.1) (c.1 / 5) ∧ x_gd (t_X X c.1) ∧ c.2 = x_s0 (t_X X c.1) ∧ c.2 ≤ 1400 := by
  obtain ⟨h1, h2⟩ := t_ch_ok 20 c h
  obtain ⟨h3, h4⟩ := t_cd_ok h2
  have h5 := (t_sw_i hg).mp h3
  have h6 := x_sw_pr hg.1 (m := c.1 / 5) (by omega) h5.1
  have h7 : x_gd (t_X X c.1) := ⟨x_pr_wf hg.1 (by omega) h6, x_ac_sp h4⟩
  have h8 := x_s0_sp h7
  have h4 : x_sp (t_X X c.1) n0 none 0 = some c.2 := h4
  rw [h4] at h8
  have h9 := Option.some.inj h8
  exact ⟨h1, by omega, h5.1, h6, h7, h9, by rw [h9]; exact x_s0_bd h7⟩
theorem t_iv_s {X0 X Xb : x_T} {W : Nat → Nat → Nat} {md ten : Nat} {c : Nat × Nat} (h : t_iv X0 X Xb W md) (hc : t_ch X W (md + 1) ten (x_s0 Xb) 20 = some c) (hm : md < 20) : t_iv X0 (t_X X c.1) (if c.2 < x_s0 Xb then t_X X c.1 else Xb) (t_W X W c.1 (md + 1)) (md + 1) := by
  obtain ⟨h1, h2, h3, h4, h5⟩ := h
  obtain ⟨g1, g2, g3, g4, g5, g6, -⟩ := t_c h1 hc
  have lo : ∀ k, k < 183 → t_X X c.1 k = X0 k := fun k hk => (x_pr_lo g4 hk).trans (h3 k hk).1
  refine ⟨g5, ?_, fun k hk => ⟨lo k hk, ?_⟩, fun a b => ?_, by omega⟩
  · split
    · exact g5
    · exact h2
  · split
    · exact lo k hk
    · exact (h3 k hk).2
  · unfold t_W
    split
    · omega
    · exact h4 a b
theorem t_lp_ok {X0 : x_T} {ten : Nat} : ∀ r X Xb W md, t_iv X0 X Xb W md → md + r ≤ 20 → x_gd (t_lp ten r X W Xb md).1 ∧ (t_lp ten r X W Xb md).2 ≤ 20 ∧ ∀ k, k < 183 → (t_lp ten r X W Xb md).1 k = X0 k
  | 0, X, Xb, W, md, h, hm => ⟨h.2.1, h.2.2.2.2, fun k hk => (h.2.2.1 k hk).2⟩
  | r + 1, X, Xb, W, md, h, hm => by
    cases hc : t_ch X W (md + 1) ten (x_s0 Xb) 20 with
    | none => rw [t_lp_n hc]; exact ⟨h.2.1, h.2.2.2.2, fun k hk => (h.2.2.1 k hk).2⟩
    | some c => rw [t_lp_s hc]; exact t_lp_ok r _ _ _ _ (t_iv_s h hc (by omega)) (by omega)
noncomputable def t_rs (X : x_T) (n ten : Nat) : x_T × Nat := t_lp ten n X (fun _ _ => 0) X 0
theorem t_iv_0 {X : x_T} (hg : x_gd X) : t_iv X X X (fun _ _ => 0) 0 := ⟨hg, hg, fun _ _ => ⟨rfl, rfl⟩, fun _ _ => Nat.zero_le _, by omega⟩
theorem t_rs_ok {X : x_T} (hg : x_gd X) {n ten : Nat} (hn : n ≤ 20) : x_gd (t_rs X n ten).1 ∧ (t_rs X n ten).2 ≤ 20 ∧ ∀ k, k < 183 → (t_rs X n ten).1 k = X k := t_lp_ok n X X _ 0 (t_iv_0 hg) (by omega)
def z_tb (z : z_T) (X : x_T) (n : Nat) : z_T := va_up (va_up z 0 X) 2 (va_up (z 2) 4 n)
noncomputable def A_tabu (z : z_T) (n t : Int32) : a_T := if (iIn n 0 20 && iIn t 0 9) = true then (0, nI (x_s0 (t_rs (z 0) (iN n) (iN t)).1), z_tb z (t_rs (z 0) (iN n) (iN t)).1 (t_rs (z 0) (iN n) (iN t)).2) else (1, 0, z)
theorem z_wf_tb {z : z_T} (hz : z_wf z) {X : x_T} {n : Nat} (hX : x_gd X) (hn : n ≤ 20) : z_wf (z_tb z X n) := by
  obtain ⟨h1, h2, h3, h4, h5, h6, h7⟩ := hz
  exact ⟨hX, h2, h3, h4, h5, h6, hn⟩
