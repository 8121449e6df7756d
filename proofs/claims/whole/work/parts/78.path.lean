/-! ===== pure: the critical path ===== -/
/-- the first of the first n with the greatest end -/
def x_la (e : Nat → Nat) : Nat → Option Nat
  | 0 => none
  | n + 1 => match x_la e n with
    | none => some n
    | some b => if e b < e n then some n else some b
theorem x_la_lt {e : Nat → Nat} : ∀ n b, x_la e n = some b → b < n
  | 0, b, h => by cases h
  | n + 1, b, h => by
    unfold x_la at h
    cases h2 : x_la e n with
    | none => rw [h2] at h; cases h; omega
    | some q =>
      rw [h2] at h
      dsimp only at h
      have h3 := x_la_lt n q h2
      by_cases c : e q < e n
      · rw [if_pos c] at h; cases h; omega
      · rw [if_neg c] at h; cases h; omega
theorem x_la_0 {e : Nat → Nat} {n : Nat} (h : x_la e n = none) : n = 0 := by
  cases n with
  | zero => rfl
  | succ n =>
    unfold x_la at h
    cases h2 : x_la e n with
    | none => rw [h2] at h; cases h
    | some q =>
      rw [h2] at h
      dsimp only at h
      by_cases c : e q < e n
      · rw [if_pos c] at h; cases h
      · rw [if_neg c] at h; cases h
/-- what an operation of the path waited for -/
def x_nx (X : x_T) (r e : Nat → Nat) (o : Nat) : Option Nat :=
  if (∃ q, x_jp X o = some q ∧ e q = r o) then x_jp X o
  else if (∃ q, x_mp X n0 o = some q ∧ e q + X (142 + 3 * X (102 + q) + X (102 + o)) = r o) then x_mp X n0 o else none
theorem x_nx_j {X : x_T} {r e : Nat → Nat} {o q : Nat} (h : x_jp X o = some q) (h2 : e q = r o) : x_nx X r e o = some q := by
  unfold x_nx
  rw [if_pos ⟨q, h, h2⟩, h]
theorem x_nx_m {X : x_T} {r e : Nat → Nat} {o q : Nat} (h1 : ∀ q, x_jp X o = some q → e q ≠ r o) (h : x_mp X n0 o = some q) (h2 : e q + X (142 + 3 * X (102 + q) + X (102 + o)) = r o) : x_nx X r e o = some q := by
  unfold x_nx
  rw [if_neg (fun ⟨q', a, b⟩ => h1 q' a b), if_pos ⟨q, h, h2⟩, h]
theorem x_nx_0 {X : x_T} {r e : Nat → Nat} {o : Nat} (h1 : ∀ q, x_jp X o = some q → e q ≠ r o) (h2 : ∀ q, x_mp X n0 o = some q → e q + X (142 + 3 * X (102 + q) + X (102 + o)) ≠ r o) : x_nx X r e o = none := by
  unfold x_nx
  rw [if_neg (fun ⟨q', a, b⟩ => h1 q' a b), if_neg (fun ⟨q', a, b⟩ => h2 q' a b)]
theorem x_nx_or {X : x_T} {r e : Nat → Nat} {o q : Nat} (h : x_nx X r e o = some q) : x_jp X o = some q ∨ x_mp X n0 o = some q := by
  unfold x_nx at h
  by_cases c1 : ∃ q, x_jp X o = some q ∧ e q = r o
  · rw [if_pos c1] at h; exact Or.inl h
  · rw [if_neg c1] at h
    by_cases c2 : ∃ q, x_mp X n0 o = some q ∧ e q + X (142 + 3 * X (102 + q) + X (102 + o)) = r o
    · rw [if_pos c2] at h; exact Or.inr h
    · rw [if_neg c2] at h; cases h
noncomputable def x_nx0 (X : x_T) (o : Nat) : Option Nat := x_nx X (x_r0 X) (x_e0 X) o
/-- the path from its end: its i-th operation -/
noncomputable def x_bk (X : x_T) : Nat → Option Nat
  | 0 => x_la (x_e0 X) (X 1)
  | i + 1 => (x_bk X i).bind (x_nx0 X)
noncomputable def x_pl1 (X : x_T) : Nat → Nat → Nat
  | 0, i => i
  | f + 1, i => if x_bk X i = none then i else x_pl1 X f (i + 1)
noncomputable def x_pl (X : x_T) : Nat := x_pl1 X 21 0
noncomputable def x_pb (X : x_T) (i : Nat) : Nat := (x_bk X i).getD 0
theorem x_pl1_eq {X : x_T} {n : Nat} (h0 : x_bk X n = none) : ∀ f i, i ≤ n → n < i + f → (∀ j, j < n → x_bk X j ≠ none) → x_pl1 X f i = n
  | 0, i, h1, h2, _ => absurd h2 (by omega)
  | f + 1, i, h1, h2, h3 => by
    unfold x_pl1
    by_cases e : i = n
    · subst e; rw [if_pos h0]
    · rw [if_neg (h3 i (by omega))]
      exact x_pl1_eq h0 f (i + 1) (by omega) (by omega) h3
theorem x_pl_eq {X : x_T} {n : Nat} (hn : n ≤ 20) (h0 : x_bk X n = none) (h : ∀ j, j < n → x_bk X j ≠ none) : x_pl X = n := x_pl1_eq h0 21 0 (by omega) (by omega) h
theorem x_bk_rk {X : x_T} (hg : x_gd X) : ∃ rk : Nat → Nat, (∀ k, k < X 1 → rk k < X 1) ∧ ∀ i q, x_bk X i = some q → q < X 1 ∧ rk q + i < X 1 ∧ ∀ q', x_bk X (i + 1) = some q' → rk q' < rk q := by
  obtain ⟨K, rk, T, M, hA, hr⟩ := x_tb_ok (hk := none) (hu := 0) hg.1 hg.2
  have hR := x_TT_rk T hA
  have step : ∀ o q, o < X 1 → x_nx0 X o = some q → q < X 1 ∧ rk q < rk o := fun o q ho h => by
    rcases x_nx_or h with h1 | h1
    · exact ⟨(x_jp_lt hg.1 ho h1).1, (hR o ho).1 q h1⟩
    · exact ⟨(x_mp_lt hg.1 ho h1).1, (hR o ho).2 q h1⟩
  refine ⟨rk, hr, fun i => ?_⟩
  induction i with
  | zero =>
    intro q h
    have h1 := x_la_lt _ _ h
    exact ⟨h1, by have := hr q h1; omega, fun q' h' => (step q q' h1 (by
      have h2 : (x_bk X 0).bind (x_nx0 X) = some q' := h'
      rw [h] at h2; exact h2)).2⟩
  | succ i ih =>
    intro q h
    cases h0 : x_bk X i with
    | none =>
      have h2 : (x_bk X i).bind (x_nx0 X) = some q := h
      rw [h0] at h2; cases h2
    | some p =>
      obtain ⟨a1, a2, a3⟩ := ih p h0
      have h2 : (x_bk X i).bind (x_nx0 X) = some q := h
      rw [h0] at h2
      have h3 := step p q a1 h2
      exact ⟨h3.1, by omega, fun q' h' => (step q q' h3.1 (by
        have h4 : (x_bk X (i + 1)).bind (x_nx0 X) = some q' := h'
        rw [h] at h4; exact h4)).2⟩
theorem x_bk_lt {X : x_T} (hg : x_gd X) {i q : Nat} (h : x_bk X i = some q) : q < X 1 ∧ i < X 1 := by
  obtain ⟨rk, -, h2⟩ := x_bk_rk hg
  have := h2 i q h
  exact ⟨this.1, by omega⟩
theorem x_pl_ok {X : x_T} (hg : x_gd X) : x_pl X ≤ X 1 ∧ x_bk X (x_pl X) = none ∧ ∀ i, i < x_pl X → x_bk X i = some (x_pb X i) ∧ x_pb X i < X 1 := by
  have hs := x_sz hg.1
  have ex : ∃ n, n ≤ X 1 ∧ x_bk X n = none := ⟨X 1, Nat.le_refl _, by
    cases h : x_bk X (X 1) with
    | none => rfl
    | some q => have := x_bk_lt hg h; omega⟩
  have least : ∀ N, (∃ n, n < N ∧ n ≤ X 1 ∧ x_bk X n = none) → ∃ n, n ≤ X 1 ∧ x_bk X n = none ∧ ∀ j, j < n → x_bk X j ≠ none := by
    intro N
    induction N with
    | zero => rintro ⟨n, h, -⟩; exact absurd h (by omega)
    | succ N ih =>
      rintro ⟨n, h1, h2, h3⟩
      by_cases e : ∃ n, n < N ∧ n ≤ X 1 ∧ x_bk X n = none
      · exact ih e
      · exact ⟨n, h2, h3, fun j hj q => e ⟨j, by omega, by omega, q⟩⟩
  obtain ⟨n1, a1, a2⟩ := ex
  obtain ⟨n, h1, h2, h3⟩ := least (n1 + 1) ⟨n1, by omega, a1, a2⟩
  have e := x_pl_eq (by omega) h2 h3
  rw [e]
  refine ⟨h1, h2, fun i hi => ?_⟩
  cases h : x_bk X i with
  | none => exact absurd h (h3 i hi)
  | some q =>
    unfold x_pb
    rw [h]
    exact ⟨rfl, (x_bk_lt hg h).1⟩
theorem x_pb_ne {X : x_T} (hg : x_gd X) {i j : Nat} (hij : i < j) (hj : j < x_pl X) : x_pb X i ≠ x_pb X j := by
  obtain ⟨rk, -, h2⟩ := x_bk_rk hg
  obtain ⟨-, -, h3⟩ := x_pl_ok hg
  have key : ∀ n, i + n + 1 < x_pl X → rk (x_pb X (i + n + 1)) < rk (x_pb X i) := by
    intro n
    induction n with
    | zero => intro h; exact (h2 i _ (h3 i (by omega)).1).2.2 _ (h3 (i + 1) (by omega)).1
    | succ n ih =>
      intro h
      have q1 := ih (by omega)
      have q2 := (h2 (i + n + 1) _ (h3 (i + n + 1) (by omega)).1).2.2 _ (h3 (i + (n + 1) + 1) (by omega)).1
      omega
  intro e
  have := key (j - i - 1) (by omega)
  rw [show i + (j - i - 1) + 1 = j by omega, e] at this
  omega
/-- the path from its beginning -/
noncomputable def x_fw (X : x_T) (i : Nat) : Nat := x_pb X (x_pl X - 1 - i)
theorem x_fw_lt {X : x_T} (hg : x_gd X) {i : Nat} (hi : i < x_pl X) : x_fw X i < X 1 := ((x_pl_ok hg).2.2 _ (by omega)).2
theorem x_fw_ne {X : x_T} (hg : x_gd X) {i j : Nat} (hi : i < x_pl X) (hj : j < x_pl X) (e : x_fw X i = x_fw X j) : i = j := by
  unfold x_fw at e
  by_cases c : i = j
  · exact c
  · by_cases c2 : i < j
    · exact absurd e.symm (x_pb_ne hg (by omega) (by omega))
    · exact absurd e (x_pb_ne hg (by omega) (by omega))
/-! blocks of a row of n machines q -/
def x_b1 (q : Nat → Nat) (i : Nat) : Bool := decide (i = 0 ∨ q i ≠ q (i - 1))
def x_bc (q : Nat → Nat) (n : Nat) : Nat := x_sm (fun i => if x_b1 q i = true then 1 else 0) n
def x_bl (q : Nat → Nat) (b n : Nat) : Nat := x_sm (fun i => if x_bc q (i + 1) = b + 1 then 1 else 0) n
theorem x_bc_le {q : Nat → Nat} : ∀ n, x_bc q n ≤ n
  | 0 => Nat.le_refl _
  | n + 1 => by
    have h := x_bc_le (q := q) n
    have e : x_bc q (n + 1) = x_bc q n + (if x_b1 q n = true then 1 else 0) := rfl
    rw [e]
    split <;> omega
theorem x_bc_s {q : Nat → Nat} (n : Nat) : x_bc q (n + 1) = x_bc q n + (if x_b1 q n = true then 1 else 0) := rfl
theorem x_bl_s {q : Nat → Nat} (b n : Nat) : x_bl q b (n + 1) = x_bl q b n + (if x_bc q (n + 1) = b + 1 then 1 else 0) := rfl
theorem x_bl_le {q : Nat → Nat} {b : Nat} : ∀ n, x_bl q b n ≤ n
  | 0 => Nat.le_refl _
  | n + 1 => by
    have h := x_bl_le (q := q) (b := b) n
    rw [x_bl_s]
    split <;> omega
theorem x_bl_0 {q : Nat → Nat} : ∀ n b, x_bc q n ≤ b → x_bl q b n = 0
  | 0, b, _ => rfl
  | n + 1, b, h => by
    have e := x_bc_s (q := q) n
    rw [x_bl_s, x_bl_0 n b (by omega), if_neg (by omega)]
theorem x_bc_p {q : Nat → Nat} {n : Nat} (h : 0 < n) : 0 < x_bc q n := by
  cases n with
  | zero => exact absurd h (by omega)
  | succ n =>
    induction n with
    | zero => rw [x_bc_s, if_pos (by unfold x_b1; simp)]; omega
    | succ n ih => rw [x_bc_s]; have := ih (by omega); omega
noncomputable def x_fm (X : x_T) (i : Nat) : Nat := X (62 + x_fw X i)
noncomputable def A_pathLength (z : z_T) : a_T := (0, nI (x_pl (z 0)), z)
noncomputable def A_path (z : z_T) (i : Int32) : a_T := if iLt i (x_pl (z 0)) = true then (0, nI (x_fw (z 0) (iN i)), z) else (1, 0, z)
noncomputable def A_blocks (z : z_T) : a_T := (0, nI (x_bc (x_fm (z 0)) (x_pl (z 0))), z)
noncomputable def A_blockLength (z : z_T) (i : Int32) : a_T := if iLt i (x_bc (x_fm (z 0)) (x_pl (z 0))) = true then (0, nI (x_bl (x_fm (z 0)) (iN i) (x_pl (z 0))), z) else (1, 0, z)
