/-! ===== pure: the text ===== -/
def w_pv (t : Nat → Nat) (p : Nat) : Nat → Nat
  | 0 => 0
  | j + 1 => 10 * w_pv t p j + (t (p + j) - 48)
def w_mo (k : Nat) : Nat := if k = 3 ∨ k = 5 then 1 else 3
/-- the number behind p takes a j-th digit -/
def w_tk (t : Nat → Nat) (n k p j : Nat) : Bool := decide (p + j < n ∧ 48 ≤ t (p + j) ∧ t (p + j) ≤ 57 ∧ (j = 0 ∨ (j < w_mo k ∧ 0 < w_pv t p j)))
def w_c (t : Nat → Nat) (n k p : Nat) : Nat := if w_tk t n k p 0 = false then 0 else if w_tk t n k p 1 = false then 1 else if w_tk t n k p 2 = false then 2 else 3
theorem w_mo_le (k : Nat) : w_mo k ≤ 3 ∧ 1 ≤ w_mo k := by unfold w_mo; split <;> omega
theorem w_tk_3 {t : Nat → Nat} {n k p j : Nat} (h : 3 ≤ j) : w_tk t n k p j = false := decide_eq_false (fun z => by have := w_mo_le k; omega)
theorem w_c_ok {t : Nat → Nat} {n k p : Nat} : (∀ j, j < w_c t n k p → w_tk t n k p j = true) ∧ w_tk t n k p (w_c t n k p) = false ∧ w_c t n k p ≤ 3 := by
  unfold w_c
  by_cases h0 : w_tk t n k p 0 = false
  · rw [if_pos h0]; exact ⟨fun j hj => absurd hj (by omega), h0, by omega⟩
  · rw [if_neg h0]
    by_cases h1 : w_tk t n k p 1 = false
    · rw [if_pos h1]; exact ⟨fun j hj => by rw [show j = 0 by omega]; exact eq_true_of_ne_false h0, h1, by omega⟩
    · rw [if_neg h1]
      by_cases h2 : w_tk t n k p 2 = false
      · rw [if_pos h2]
        refine ⟨fun j hj => ?_, h2, by omega⟩
        rcases (show j = 0 ∨ j = 1 by omega) with rfl | rfl
        · exact eq_true_of_ne_false h0
        · exact eq_true_of_ne_false h1
      · rw [if_neg h2]
        refine ⟨fun j hj => ?_, w_tk_3 (by omega), by omega⟩
        rcases (show j = 0 ∨ j = 1 ∨ j = 2 by omega) with rfl | rfl | rfl
        · exact eq_true_of_ne_false h0
        · exact eq_true_of_ne_false h1
        · exact eq_true_of_ne_false h2
theorem w_c_eq {t : Nat → Nat} {n k p j : Nat} (h1 : ∀ i, i < j → w_tk t n k p i = true) (h2 : w_tk t n k p j = false) : w_c t n k p = j := by
  have q := w_c_ok (t := t) (n := n) (k := k) (p := p)
  rcases Nat.lt_trichotomy (w_c t n k p) j with e | e | e
  · have := h1 _ e; rw [q.2.1] at this; cases this
  · exact e
  · have := q.1 _ e; rw [h2] at this; cases this
theorem w_c_le {t : Nat → Nat} {n k p : Nat} (hp : p ≤ n) : p + w_c t n k p ≤ n := by
  have q := w_c_ok (t := t) (n := n) (k := k) (p := p)
  by_cases e : w_c t n k p = 0
  · omega
  · have h := of_decide_eq_true (q.1 (w_c t n k p - 1) (by omega))
    omega
theorem w_pv_le {t : Nat → Nat} {n k p : Nat} : ∀ j, j ≤ w_c t n k p → w_pv t p j + 1 ≤ 10 ^ j
  | 0, _ => by show 0 + 1 ≤ 1; omega
  | j + 1, h => by
    have q := w_pv_le (t := t) (n := n) (k := k) (p := p) j (by omega)
    have r := of_decide_eq_true ((w_c_ok (t := t) (n := n) (k := k) (p := p)).1 j (by omega))
    show 10 * w_pv t p j + (t (p + j) - 48) + 1 ≤ 10 ^ (j + 1)
    rw [Nat.pow_succ]
    omega
theorem w_pv_999 {t : Nat → Nat} {n k p j : Nat} (hj : j ≤ w_c t n k p) : w_pv t p j ≤ 999 := by
  have q := w_pv_le j hj
  have r := (w_c_ok (t := t) (n := n) (k := k) (p := p)).2.2
  rcases (show j = 0 ∨ j = 1 ∨ j = 2 ∨ j = 3 by omega) with rfl | rfl | rfl | rfl <;> omega
/-- what follows a sign -/
def w_nx (k c : Nat) : Option Nat := if k = 0 then (if c = 44 then some 1 else none) else if k = 1 then (if c = 44 then some 2 else none) else if k = 2 then (if c = 58 then some 3 else none) else if k = 3 then (if c = 46 then some 4 else none) else if k = 4 then (if c = 46 then some 5 else none) else (if c = 47 then some 3 else if c = 59 then some 0 else none)
theorem w_nx_k {k c k' : Nat} (hk : k < 6) (h : w_nx k c = some k') : k' < 6 ∧ k' % 3 = (k + 1) % 3 := by
  unfold w_nx at h
  rcases (show k = 0 ∨ k = 1 ∨ k = 2 ∨ k = 3 ∨ k = 4 ∨ k = 5 by omega) with rfl | rfl | rfl | rfl | rfl | rfl
  · rw [if_pos rfl] at h; split at h <;> cases h; omega
  · rw [if_neg (by omega), if_pos rfl] at h; split at h <;> cases h; omega
  · rw [if_neg (by omega), if_neg (by omega), if_pos rfl] at h; split at h <;> cases h; omega
  · rw [if_neg (by omega), if_neg (by omega), if_neg (by omega), if_pos rfl] at h; split at h <;> cases h; omega
  · rw [if_neg (by omega), if_neg (by omega), if_neg (by omega), if_neg (by omega), if_pos rfl] at h; split at h <;> cases h; omega
  · rw [if_neg (by omega), if_neg (by omega), if_neg (by omega), if_neg (by omega), if_neg (by omega)] at h
    split at h
    · cases h; omega
    · split at h <;> cases h; omega
/-- the fault from a number on -/
def w_fl (t : Nat → Nat) (n : Nat) : Nat → Nat → Nat → Option Nat
  | 0, _, p => some p
  | f + 1, k, p => if w_c t n k p = 0 then some p else if p + w_c t n k p < n then (match w_nx k (t (p + w_c t n k p)) with
      | none => some (p + w_c t n k p)
      | some k' => w_fl t n f k' (p + w_c t n k p + 1)) else if k = 5 then none else some (p + w_c t n k p)
theorem w_fl_0 {t : Nat → Nat} {n f k p : Nat} (h : w_c t n k p = 0) : w_fl t n (f + 1) k p = some p := by show (if _ then _ else _) = _; rw [if_pos h]
theorem w_fl_b {t : Nat → Nat} {n f k p : Nat} (h : w_c t n k p ≠ 0) (h2 : p + w_c t n k p < n) (h3 : w_nx k (t (p + w_c t n k p)) = none) : w_fl t n (f + 1) k p = some (p + w_c t n k p) := by
  show (if _ then _ else _) = _
  rw [if_neg h, if_pos h2, h3]
theorem w_fl_s {t : Nat → Nat} {n f k p k' : Nat} (h : w_c t n k p ≠ 0) (h2 : p + w_c t n k p < n) (h3 : w_nx k (t (p + w_c t n k p)) = some k') : w_fl t n (f + 1) k p = w_fl t n f k' (p + w_c t n k p + 1) := by
  show (if _ then _ else _) = _
  rw [if_neg h, if_pos h2, h3]
theorem w_fl_e {t : Nat → Nat} {n f k p : Nat} (h : w_c t n k p ≠ 0) (h2 : ¬ p + w_c t n k p < n) (h3 : k ≠ 5) : w_fl t n (f + 1) k p = some (p + w_c t n k p) := by
  show (if _ then _ else _) = _
  rw [if_neg h, if_neg h2, if_neg h3]
theorem w_fl_n {t : Nat → Nat} {n f k p : Nat} (h : w_c t n k p ≠ 0) (h2 : ¬ p + w_c t n k p < n) (h3 : k = 5) : w_fl t n (f + 1) k p = none := by
  show (if _ then _ else _) = _
  rw [if_neg h, if_neg h2, if_pos h3]
/-- the i-th number: its kind, where it begins -/
def w_sq (t : Nat → Nat) (n : Nat) : Nat → Option (Nat × Nat)
  | 0 => some (0, 0)
  | i + 1 => match w_sq t n i with
    | none => none
    | some a => if w_c t n a.1 a.2 ≠ 0 ∧ a.2 + w_c t n a.1 a.2 < n then (w_nx a.1 (t (a.2 + w_c t n a.1 a.2))).map (fun k' => (k', a.2 + w_c t n a.1 a.2 + 1)) else none
theorem w_sq_s {t : Nat → Nat} {n i k p k' : Nat} (h : w_sq t n i = some (k, p)) (h1 : w_c t n k p ≠ 0) (h2 : p + w_c t n k p < n) (h3 : w_nx k (t (p + w_c t n k p)) = some k') : w_sq t n (i + 1) = some (k', p + w_c t n k p + 1) := by
  show (match w_sq t n i with
    | none => none
    | some a => _) = _
  rw [h]
  dsimp only
  rw [if_pos ⟨h1, h2⟩, h3]
  rfl
theorem w_sq_e {t : Nat → Nat} {n i k p : Nat} (h : w_sq t n i = some (k, p)) (h1 : ¬ p + w_c t n k p < n) : w_sq t n (i + 1) = none := by
  show (match w_sq t n i with
    | none => none
    | some a => _) = _
  rw [h]
  dsimp only
  rw [if_neg (fun z => h1 z.2)]
theorem w_sq_ok {t : Nat → Nat} {n : Nat} : ∀ i k p, w_sq t n i = some (k, p) → k < 6 ∧ k % 3 = i % 3 ∧ 2 * i ≤ p ∧ p ≤ n
  | 0, k, p, h => by cases h; omega
  | i + 1, k, p, h => by
    have h : (match w_sq t n i with
      | none => none
      | some a => if w_c t n a.1 a.2 ≠ 0 ∧ a.2 + w_c t n a.1 a.2 < n then (w_nx a.1 (t (a.2 + w_c t n a.1 a.2))).map (fun k' => (k', a.2 + w_c t n a.1 a.2 + 1)) else none) = some (k, p) := h
    cases ha : w_sq t n i with
    | none => rw [ha] at h; cases h
    | some a =>
      rw [ha] at h
      dsimp only at h
      have q := w_sq_ok i a.1 a.2 ha
      by_cases e : w_c t n a.1 a.2 ≠ 0 ∧ a.2 + w_c t n a.1 a.2 < n
      · rw [if_pos e] at h
        cases hn : w_nx a.1 (t (a.2 + w_c t n a.1 a.2)) with
        | none => rw [hn] at h; cases h
        | some k' =>
          rw [hn] at h
          cases h
          have r := w_nx_k q.1 hn
          exact ⟨r.1, by omega, by omega, by omega⟩
      · rw [if_neg e] at h; cases h
theorem w_sq_dn {t : Nat → Nat} {n : Nat} : ∀ d i, w_sq t n (i + d) ≠ none → w_sq t n i ≠ none
  | 0, i, h => h
  | d + 1, i, h => by
    refine w_sq_dn d i (fun z => h ?_)
    show (match w_sq t n (i + d) with
      | none => none
      | some a => _) = _
    rw [z]
noncomputable def w_M (t : Nat → Nat) (n : Nat) : Nat := x_fu (fun i => (w_sq t n i).isSome) 81 0
theorem w_M_eq {t : Nat → Nat} {n m k p : Nat} (hn : n ≤ 80) (h : w_sq t n m = some (k, p)) (h1 : ¬ p + w_c t n k p < n) : w_M t n = m + 1 := by
  have q := w_sq_ok m k p h
  refine x_fu_eq (K := fun i => (w_sq t n i).isSome) (k0 := m + 1) ?_ 81 0 (by omega) (by omega) (fun i _ hi => ?_)
  · show (w_sq t n (m + 1)).isSome = false
    rw [w_sq_e h h1]; rfl
  · show (w_sq t n i).isSome = true
    cases hs : w_sq t n i with
    | some a => rfl
    | none => exact absurd hs (w_sq_dn (m - i) i (by rw [show i + (m - i) = m by omega, h]; exact fun z => by cases z))
def w_ki (t : Nat → Nat) (n i : Nat) : Nat := match w_sq t n i with
  | none => 0
  | some a => a.1
def w_va (t : Nat → Nat) (n i : Nat) : Nat := match w_sq t n i with
  | none => 0
  | some a => w_pv t a.2 (w_c t n a.1 a.2)
theorem w_ki_e {t : Nat → Nat} {n i k p : Nat} (h : w_sq t n i = some (k, p)) : w_ki t n i = k := by unfold w_ki; rw [h]
theorem w_va_e {t : Nat → Nat} {n i k p : Nat} (h : w_sq t n i = some (k, p)) : w_va t n i = w_pv t p (w_c t n k p) := by unfold w_va; rw [h]
theorem w_va_le {t : Nat → Nat} {n i : Nat} : w_va t n i ≤ 999 := by
  unfold w_va
  cases h : w_sq t n i with
  | none => show 0 ≤ 999; omega
  | some a => exact w_pv_999 (k := a.1) (n := n) (Nat.le_refl _)
/-! making what the numbers say: the shop, how many jobs, how many operations of the last job; or what can't be made -/
abbrev w_E : Type := (x_T × Nat × Nat) ⊕ (Nat × Nat × Nat)
def w_jf (a b c : Nat) : Bool := decide (a ≤ 99) && decide (b ≤ 200) && decide (c ≤ 9)
def w_of (X : x_T) (a b c : Nat) : Bool := decide (a < 4) && (decide (1 ≤ b ∧ b ≤ 30) && decide (c < 3)) && (!(decide (X (17 + (X 0 - 1)) = 4) || x_hm X (X 0 - 1) a (X (17 + (X 0 - 1)))))
def w_s1 (X : x_T) (jb st k a b c : Nat) : w_E := if k = 0 then (if X 0 = 5 then .inr (jb, 1, 0) else if w_jf a b c = true then .inl (x_addJob X a b c, jb + 1, 0) else .inr (jb, 2, 0)) else (if w_of X a b c = true then .inl (x_addOp X (X 0 - 1) a b c, jb, st + 1) else .inr (jb - 1, 3, st))
def w_ex (t : Nat → Nat) (n : Nat) (X : x_T) : Nat → w_E
  | 0 => .inl (X, 0, 0)
  | j + 1 => match w_ex t n X j with
    | .inr w => .inr w
    | .inl y => w_s1 y.1 y.2.1 y.2.2 (w_ki t n (3 * j)) (w_va t n (3 * j)) (w_va t n (3 * j + 1)) (w_va t n (3 * j + 2))
theorem w_ex_l {t : Nat → Nat} {n j jb st : Nat} {X X' : x_T} (h : w_ex t n X j = .inl (X', jb, st)) : w_ex t n X (j + 1) = w_s1 X' jb st (w_ki t n (3 * j)) (w_va t n (3 * j)) (w_va t n (3 * j + 1)) (w_va t n (3 * j + 2)) := by
  show (match w_ex t n X j with
    | .inr w => _
    | .inl y => _) = _
  rw [h]
theorem w_ex_r {t : Nat → Nat} {n j : Nat} {X : x_T} {w : Nat × Nat × Nat} (h : w_ex t n X j = .inr w) : w_ex t n X (j + 1) = .inr w := by
  show (match w_ex t n X j with
    | .inr w => _
    | .inl y => _) = _
  rw [h]
/-- what always holds of it -/
def w_ok (X : x_T) (j : Nat) (e : w_E) : Prop := match e with
  | .inl y => x_gd y.1 ∧ y.1 0 = X 0 + y.2.1 ∧ (0 < j → 0 < y.2.1) ∧ y.2.1 ≤ j ∧ y.2.2 ≤ j
  | .inr w => w.1 ≤ j ∧ 1 ≤ w.2.1 ∧ w.2.1 ≤ 3 ∧ w.2.2 ≤ j
theorem w_s1_ok {X X' : x_T} {j jb st k a b c : Nat} (h : w_ok X j (.inl (X', jb, st))) (hk : j = 0 → k = 0) : w_ok X (j + 1) (w_s1 X' jb st k a b c) := by
  obtain ⟨hg, h0, h1, h2, h3⟩ := h
  have hg : x_gd X' := hg
  have h0 : X' 0 = X 0 + jb := h0
  have h1 : 0 < j → 0 < jb := h1
  have h2 : jb ≤ j := h2
  have h3 : st ≤ j := h3
  have hz := x_sz hg.1
  unfold w_s1
  by_cases e : k = 0
  · rw [if_pos e]
    by_cases e5 : X' 0 = 5
    · rw [if_pos e5]; exact ⟨by show jb ≤ _; omega, by show 1 ≤ 1; omega, by show 1 ≤ 3; omega, by show 0 ≤ _; omega⟩
    · rw [if_neg e5]
      by_cases ef : w_jf a b c = true
      · rw [if_pos ef]
        unfold w_jf at ef
        rw [Bool.and_eq_true, Bool.and_eq_true, decide_eq_true_iff, decide_eq_true_iff, decide_eq_true_iff] at ef
        refine ⟨x_gd_addJob hg (by omega) ef.1.1 ef.1.2 ef.2, ?_, fun _ => ?_, ?_, ?_⟩
        · show x_addJob X' a b c 0 = X 0 + (jb + 1)
          rw [x_addJob_at, if_pos rfl]; omega
        · show 0 < jb + 1; omega
        · show jb + 1 ≤ j + 1; omega
        · show 0 ≤ j + 1; omega
      · rw [if_neg ef]; exact ⟨by show jb ≤ _; omega, by show 1 ≤ 2; omega, by show 2 ≤ 3; omega, by show 0 ≤ _; omega⟩
  · rw [if_neg e]
    have hj : 0 < j := by apply Classical.byContradiction; intro z; exact e (hk (by omega))
    have hjb := h1 hj
    by_cases ef : w_of X' a b c = true
    · rw [if_pos ef]
      unfold w_of at ef
      rw [Bool.and_eq_true, Bool.and_eq_true, Bool.and_eq_true, decide_eq_true_iff, decide_eq_true_iff, decide_eq_true_iff, Bool.not_eq_true', Bool.or_eq_false_iff, decide_eq_false_iff_not] at ef
      refine ⟨x_gd_addOp hg (by omega) ef.1.1 ef.1.2.1.1 ef.1.2.1.2 ef.1.2.2 ef.2.1 ef.2.2, ?_, fun _ => hjb, ?_, ?_⟩
      · show x_addOp X' (X' 0 - 1) a b c 0 = X 0 + jb
        have hn := x_room hg.1 (show X' 0 - 1 < X' 0 by omega) ef.1.1 (by have := x_jb hg.1 (show X' 0 - 1 < X' 0 by omega); omega) ef.2.2
        rw [x_addOp_o (by omega)]; exact h0
      · show jb ≤ j + 1; omega
      · show st + 1 ≤ j + 1; omega
    · rw [if_neg ef]; exact ⟨by show jb - 1 ≤ _; omega, by show 1 ≤ 3; omega, by show 3 ≤ 3; omega, by show st ≤ _; omega⟩
theorem w_ex_ok {t : Nat → Nat} {n : Nat} {X : x_T} (hg : x_gd X) : ∀ j, w_ok X j (w_ex t n X j)
  | 0 => ⟨hg, rfl, fun z => absurd z (by omega), Nat.le_refl _, Nat.le_refl _⟩
  | j + 1 => by
    have q := w_ex_ok (t := t) (n := n) hg j
    cases h : w_ex t n X j with
    | inr w =>
      rw [w_ex_r h]
      rw [h] at q
      obtain ⟨q1, q2, q3, q4⟩ := q
      exact ⟨Nat.le_succ_of_le q1, q2, q3, Nat.le_succ_of_le q4⟩
    | inl y =>
      obtain ⟨X', jb, st⟩ := y
      rw [w_ex_l h]
      rw [h] at q
      refine w_s1_ok q (fun e => ?_)
      subst e
      rfl
/-! what read answers -/
def z_rd (z : z_T) : z_T := va_up z 2 (va_up (z 2) 1 0)
def z_fa (z : z_T) (m : Nat) (g : Nat → Nat) : z_T := va_up (va_up z 2 (va_up (va_up (z 2) 1 0) 2 m)) 4 g
def w_f2 (g : Nat → Nat) (q : Nat) : Nat → Nat := va_up (va_up g 0 2) 1 (100 + q)
def w_f3 (g : Nat → Nat) (w : Nat × Nat × Nat) : Nat → Nat := va_up (va_up (va_up (va_up g 0 3) 1 (100 + w.1)) 2 w.2.1) 3 (100 + w.2.2)
noncomputable def A_read (z : z_T) : a_T := match w_fl (z 3) (z 2 1) 81 0 0 with
  | some q => (1, 0, z_fa z 2 (w_f2 (z 4) q))
  | none => match w_ex (z 3) (z 2 1) (z 0) (w_M (z 3) (z 2 1) / 3) with
    | .inr w => (2, 0, z_fa z (if w.2.1 = 3 then 4 else 3) (w_f3 (z 4) w))
    | .inl y => (0, nI y.2.1, va_up (z_rd z) 0 y.1)
theorem A_read_f {z : z_T} {q : Nat} (h : w_fl (z 3) (z 2 1) 81 0 0 = some q) : A_read z = (1, 0, z_fa z 2 (w_f2 (z 4) q)) := by unfold A_read; rw [h]
theorem A_read_r {z : z_T} {w : Nat × Nat × Nat} (h : w_fl (z 3) (z 2 1) 81 0 0 = none) (h2 : w_ex (z 3) (z 2 1) (z 0) (w_M (z 3) (z 2 1) / 3) = .inr w) : A_read z = (2, 0, z_fa z (if w.2.1 = 3 then 4 else 3) (w_f3 (z 4) w)) := by unfold A_read; rw [h]; dsimp only; rw [h2]
theorem A_read_l {z : z_T} {y : x_T × Nat × Nat} (h : w_fl (z 3) (z 2 1) 81 0 0 = none) (h2 : w_ex (z 3) (z 2 1) (z 0) (w_M (z 3) (z 2 1) / 3) = .inl y) : A_read z = (0, nI y.2.1, va_up (z_rd z) 0 y.1) := by unfold A_read; rw [h]; dsimp only; rw [h2]
