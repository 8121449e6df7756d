section
/-! ===== pure: dispatching ===== -/
def x_pv (X : x_T) (k : Nat) : Nat := X (22 + 4 * X (42 + k) + (X (122 + k) - 1))
def x_ls (X : x_T) (k : Nat) : Option Nat := if X (179 + X (62 + k)) = 0 then none else some (X (183 + 5 * X (62 + k) + (X (179 + X (62 + k)) - 1)))
def x_lt (X : x_T) (fx : Nat → Nat) (k : Nat) (b : Option Nat) : Nat := match b with
  | none => 0
  | some q => fx q + X (82 + q) + X (142 + 3 * X (102 + q) + X (102 + k))
def x_cr (X : x_T) (fx : Nat → Nat) (k : Nat) : Nat := max (if X (122 + k) = 0 then X (2 + X (42 + k)) else fx (x_pv X k) + X (82 + x_pv X k)) (x_lt X fx k (x_ls X k))
/-- when a candidate would begin -/
def x_cs (X : x_T) (fx : Nat → Nat) (T k : Nat) : Nat := x_fr X (X (62 + k)) (X (82 + k)) (max (x_cr X fx k) T)
/-- whether a rule prefers a to b -/
def x_rv (X : x_T) (rl a b : Nat) : Bool := if rl = 0 then decide (X (82 + a) < X (82 + b)) else if rl = 1 then decide (x_rs X b < x_rs X a) else if rl = 2 then decide (X (7 + X (42 + a)) < X (7 + X (42 + b))) else false
def x_bt (X : x_T) (fx : Nat → Nat) (T rl k b : Nat) : Prop := x_cs X fx T k < x_cs X fx T b ∨ (x_cs X fx T k = x_cs X fx T b ∧ x_rv X rl k b = true)
def x_btd (X : x_T) (fx : Nat → Nat) (T rl k b : Nat) : Bool := decide (x_cs X fx T k < x_cs X fx T b) || (decide (x_cs X fx T k = x_cs X fx T b) && x_rv X rl k b)
/-- the chosen of the first n jobs' candidates -/
def x_cz (X : x_T) (g fx : Nat → Nat) (T rl : Nat) : Nat → Option Nat
  | 0 => none
  | n + 1 => if X (17 + n) ≤ g n then x_cz X g fx T rl n else (match x_cz X g fx T rl n with
      | none => some (X (22 + 4 * n + g n))
      | some b => if x_btd X fx T rl (X (22 + 4 * n + g n)) b = true then some (X (22 + 4 * n + g n)) else some b)
theorem x_cz_no {X : x_T} {g fx : Nat → Nat} {T rl n : Nat} (h : X (17 + n) ≤ g n) : x_cz X g fx T rl (n + 1) = x_cz X g fx T rl n := by
  show (if _ then _ else _) = _
  rw [if_pos h]
theorem x_cz_n {X : x_T} {g fx : Nat → Nat} {T rl n : Nat} (h : g n < X (17 + n)) (h2 : x_cz X g fx T rl n = none) : x_cz X g fx T rl (n + 1) = some (X (22 + 4 * n + g n)) := by
  show (if _ then _ else _) = _
  rw [if_neg (by omega), h2]
theorem x_cz_y {X : x_T} {g fx : Nat → Nat} {T rl n b : Nat} (h : g n < X (17 + n)) (h2 : x_cz X g fx T rl n = some b) : x_cz X g fx T rl (n + 1) = if x_btd X fx T rl (X (22 + 4 * n + g n)) b = true then some (X (22 + 4 * n + g n)) else some b := by
  show (if _ then _ else _) = _
  rw [if_neg (by omega), h2]
theorem x_cz_ok {X : x_T} {g fx : Nat → Nat} {T rl : Nat} : ∀ n b, x_cz X g fx T rl n = some b → ∃ j, j < n ∧ g j < X (17 + j) ∧ b = X (22 + 4 * j + g j)
  | 0, b, h => by cases h
  | n + 1, b, h => by
    by_cases c : X (17 + n) ≤ g n
    · rw [x_cz_no c] at h
      obtain ⟨j, a1, a2⟩ := x_cz_ok n b h
      exact ⟨j, by omega, a2⟩
    · cases h2 : x_cz X g fx T rl n with
      | none => rw [x_cz_n (by omega) h2] at h; cases h; exact ⟨n, by omega, by omega, rfl⟩
      | some q =>
        rw [x_cz_y (by omega) h2] at h
        obtain ⟨j, a1, a2⟩ := x_cz_ok n q h2
        by_cases c2 : x_btd X fx T rl (X (22 + 4 * n + g n)) q = true
        · rw [if_pos c2] at h; cases h; exact ⟨n, by omega, by omega, rfl⟩
        · rw [if_neg c2] at h; cases h; exact ⟨j, by omega, a2⟩
theorem x_cz_ex {X : x_T} {g fx : Nat → Nat} {T rl : Nat} : ∀ n j, j < n → g j < X (17 + j) → x_cz X g fx T rl n ≠ none
  | 0, j, h, _ => absurd h (by omega)
  | n + 1, j, h, h1 => by
    by_cases c : X (17 + n) ≤ g n
    · rw [x_cz_no c]
      exact x_cz_ex n j (by have : j ≠ n := fun z => by rw [z] at h1; omega
                            omega) h1
    · cases h4 : x_cz X g fx T rl n with
      | none => rw [x_cz_n (by omega) h4]; exact fun z => by cases z
      | some q => rw [x_cz_y (by omega) h4]; split <;> exact fun z => by cases z
/-- the chosen put into its order -/
def x_ad (X : x_T) (b : Nat) : x_T := va_up (va_up X (183 + 5 * X (62 + b) + X (179 + X (62 + b))) b) (179 + X (62 + b)) (X (179 + X (62 + b)) + 1)
theorem x_ad_at (X : x_T) (b k : Nat) : x_ad X b k = if k = 179 + X (62 + b) then X (179 + X (62 + b)) + 1 else if k = 183 + 5 * X (62 + b) + X (179 + X (62 + b)) then b else X k := rfl
def x_bu (T rl : Nat) : Nat → x_T → (Nat → Nat) → (Nat → Nat) → x_T
  | 0, X, _, _ => X
  | f + 1, X, g, fx => match x_cz X g fx T rl (X 0) with
    | none => X
    | some b => x_bu T rl f (x_ad X b) (va_up g (X (42 + b)) (g (X (42 + b)) + 1)) (va_up fx b (x_cs X fx T b))
theorem x_bu_n {T rl : Nat} {X : x_T} {g fx : Nat → Nat} (h : x_cz X g fx T rl (X 0) = none) : ∀ f, x_bu T rl f X g fx = X
  | 0 => rfl
  | f + 1 => by unfold x_bu; rw [h]
theorem x_bu_s {T rl f b : Nat} {X : x_T} {g fx : Nat → Nat} (h : x_cz X g fx T rl (X 0) = some b) : x_bu T rl (f + 1) X g fx = x_bu T rl f (x_ad X b) (va_up g (X (42 + b)) (g (X (42 + b)) + 1)) (va_up fx b (x_cs X fx T b)) := by
  show (match x_cz X g fx T rl (X 0) with | none => X | some b => x_bu T rl f (x_ad X b) (va_up g (X (42 + b)) (g (X (42 + b)) + 1)) (va_up fx b (x_cs X fx T b))) = _
  rw [h]
/-- the operations that are in the orders -/
def y_K (X : x_T) (g : Nat → Nat) (o : Nat) : Bool := decide (X (122 + o) < g (X (42 + o)))
def y_iv (X : x_T) (g fx rk : Nat → Nat) (c : Nat) : Prop :=
  (y_wf X ∧ (∀ j, j < X 0 → g j ≤ X (17 + j)) ∧ c = x_ct (y_K X g) (X 1)) ∧
  (∀ o, o < X 1 → y_K X g o = true → X (2 + X (42 + o)) ≤ fx o ∧ fx o + X (82 + o) ≤ 2000 + 40 * c ∧ rk o < 20 + c) ∧
  (∀ m p, m < 4 → p < X (179 + m) → X (183 + 5 * m + p) < X 1 ∧ X (62 + X (183 + 5 * m + p)) = m ∧ y_K X g (X (183 + 5 * m + p)) = true) ∧
  (∀ m p, m < 4 → p + 1 < X (179 + m) → rk (X (183 + 5 * m + p)) < rk (X (183 + 5 * m + (p + 1)))) ∧
  (∀ o, o < X 1 → y_K X g o = true → ∃ p, p < X (179 + X (62 + o)) ∧ X (183 + 5 * X (62 + o) + p) = o) ∧
  (∀ j i, j < X 0 → i + 1 < g j → rk (X (22 + 4 * j + i)) < rk (X (22 + 4 * j + (i + 1))))
theorem x_inc {f : Nat → Nat} {n : Nat} (h : ∀ p, p + 1 < n → f p < f (p + 1)) : ∀ q p, p < q → q < n → f p < f q
  | 0, p, h1, _ => absurd h1 (by omega)
  | q + 1, p, h1, h2 => by
    have h3 := h q (by omega)
    by_cases e : p = q
    · subst e; exact h3
    · have := x_inc h q p (by omega) (by omega); omega
theorem y_in {X : x_T} {g fx rk : Nat → Nat} {c : Nat} (h : y_iv X g fx rk c) {m p q : Nat} (hm : m < 4) (hp : p < X (179 + m)) (hq : q < X (179 + m)) (e : X (183 + 5 * m + p) = X (183 + 5 * m + q)) : p = q := by
  have hi := x_inc (f := fun p => rk (X (183 + 5 * m + p))) (n := X (179 + m)) (fun p hp => h.2.2.2.1 m p hm hp)
  apply Classical.byContradiction
  intro hn
  rcases Nat.lt_or_gt_of_ne hn with h1 | h1
  · have h2 : rk (X (183 + 5 * m + p)) < rk (X (183 + 5 * m + q)) := hi q p h1 hq
    rw [e] at h2; omega
  · have h2 : rk (X (183 + 5 * m + q)) < rk (X (183 + 5 * m + p)) := hi p q h1 hp
    rw [e] at h2; omega
/-- a candidate: the first of its job that is in no order -/
def y_cd (X : x_T) (g : Nat → Nat) (k : Nat) : Prop := k < X 1 ∧ X (122 + k) = g (X (42 + k))
theorem y_cz {X : x_T} {g fx : Nat → Nat} {T rl n b : Nat} (hw : y_wf X) (hn : n ≤ X 0) (h : x_cz X g fx T rl n = some b) : y_cd X g b := by
  obtain ⟨j, h1, h2, rfl⟩ := x_cz_ok n b h
  have h3 := y_rt hw (j := j) (i := g j) (by omega) h2
  exact ⟨h3.1, by rw [h3.2.1, h3.2.2]⟩
theorem y_cj {X : x_T} {g : Nat → Nat} {j : Nat} (hw : y_wf X) (hj : j < X 0) (h : g j < X (17 + j)) : y_cd X g (X (22 + 4 * j + g j)) := by
  have h3 := y_rt hw (j := j) (i := g j) hj h
  exact ⟨h3.1, by rw [h3.2.1, h3.2.2]⟩
theorem y_pv {X : x_T} {g : Nat → Nat} {k : Nat} (hw : y_wf X) (hk : y_cd X g k) (h0 : 0 < X (122 + k)) : x_pv X k < X 1 ∧ y_K X g (x_pv X k) = true ∧ X (42 + x_pv X k) = X (42 + k) := by
  have h1 := y_op hw hk.1
  have h2 := y_rt hw h1.2.2.1 (i := X (122 + k) - 1) (by omega)
  refine ⟨h2.1, decide_eq_true ?_, h2.2.1⟩
  show X (122 + X (22 + 4 * X (42 + k) + (X (122 + k) - 1))) < g (X (42 + X (22 + 4 * X (42 + k) + (X (122 + k) - 1))))
  rw [h2.2.1, h2.2.2, ← hk.2]
  omega
theorem y_ls {X : x_T} {g fx rk : Nat → Nat} {c k q : Nat} (h : y_iv X g fx rk c) (hk : k < X 1) (hq : x_ls X k = some q) : q < X 1 ∧ y_K X g q = true := by
  have h1 := y_op h.1.1 hk
  unfold x_ls at hq
  by_cases e : X (179 + X (62 + k)) = 0
  · rw [if_pos e] at hq; cases hq
  · rw [if_neg e] at hq
    cases hq
    have h2 := h.2.2.1 (X (62 + k)) (X (179 + X (62 + k)) - 1) h1.2.2.2.2.2.2.1 (by omega)
    exact ⟨h2.1, h2.2.2⟩
theorem y_lt {X : x_T} {g fx rk : Nat → Nat} {c k : Nat} (h : y_iv X g fx rk c) (hk : k < X 1) : x_lt X fx k (x_ls X k) ≤ 2009 + 40 * c := by
  cases hq : x_ls X k with
  | none => show 0 ≤ _; omega
  | some q =>
    have h1 := y_ls h hk hq
    have h2 := (h.2.1 q h1.1 h1.2).2.1
    have h3 := y_su h.1.1 (y_op h.1.1 h1.1).2.2.2.2.2.2.2.2.2 (y_op h.1.1 hk).2.2.2.2.2.2.2.2.2
    show fx q + X (82 + q) + X (142 + 3 * X (102 + q) + X (102 + k)) ≤ _
    omega
theorem y_cr {X : x_T} {g fx rk : Nat → Nat} {c k : Nat} (h : y_iv X g fx rk c) (hk : y_cd X g k) : X (2 + X (42 + k)) ≤ x_cr X fx k ∧ x_cr X fx k ≤ 2009 + 40 * c := by
  have h1 := y_lt h hk.1
  have h2 := y_op h.1.1 hk.1
  have h3 := y_jb h.1.1 h2.2.2.1
  unfold x_cr
  by_cases e : X (122 + k) = 0
  · rw [if_pos e]; omega
  · rw [if_neg e]
    have h4 := y_pv h.1.1 hk (by omega)
    have h5 := h.2.1 _ h4.1 h4.2.1
    rw [h4.2.2] at h5
    omega
theorem y_cs {X : x_T} {g fx rk : Nat → Nat} {c k T : Nat} (h : y_iv X g fx rk c) (hk : y_cd X g k) (hT : T ≤ 999) : X (2 + X (42 + k)) ≤ x_cs X fx T k ∧ x_cs X fx T k ≤ 2009 + 40 * c := by
  have h1 := y_cr h hk
  have h2 := y_op h.1.1 hk.1
  unfold x_cs
  have h3 := x_fr_ge (X := X) (m := X (62 + k)) (d := X (82 + k)) (t := max (x_cr X fx k) T)
  have h4 := y_fr_le h.1.1 (m := X (62 + k)) (d := X (82 + k)) (t := max (x_cr X fx k) T) (B := 2009 + 40 * c) h2.2.2.2.2.2.2.1 (by omega) (by omega)
  omega
theorem y_c {X : x_T} {g fx rk : Nat → Nat} {c : Nat} (h : y_iv X g fx rk c) : c ≤ 20 := by
  have h1 := x_ct_le (K := y_K X g) (X 1)
  have h2 := y_sz h.1.1
  have h3 := h.1.2.2
  omega
theorem y_nK {X : x_T} {g : Nat → Nat} {k : Nat} (hk : y_cd X g k) : y_K X g k = false := decide_eq_false (by rw [hk.2]; omega)
/-- there is room in the order -/
theorem y_room {X : x_T} {g fx rk : Nat → Nat} {c k : Nat} (h : y_iv X g fx rk c) (hk : y_cd X g k) : X (179 + X (62 + k)) < 5 := by
  have h1 := y_op h.1.1 hk.1
  have hm := h1.2.2.2.2.2.2.1
  have h2 : X (179 + X (62 + k)) < X 0 := by
    refine x_pig1 (f := fun i => X (42 + X (183 + 5 * X (62 + k) + i))) (p := X (42 + k)) (fun i hi => ?_) (fun i j hi hj e => ?_) h1.2.2.1 (fun i hi e => ?_)
    · exact (y_op h.1.1 (h.2.2.1 _ i hm hi).1).2.2.1
    · have a := h.2.2.1 _ i hm hi
      have b := h.2.2.1 _ j hm hj
      exact y_in h hm hi hj (y_uq h.1.1 a.1 b.1 e (by rw [a.2.1, b.2.1]))
    · have a := h.2.2.1 _ i hm hi
      have e2 := y_uq h.1.1 a.1 hk.1 e a.2.1
      have e3 := a.2.2
      rw [e2, y_nK hk] at e3
      cases e3
  omega
theorem y_K_ad {X : x_T} {g : Nat → Nat} {b : Nat} (hw : y_wf X) (hb : y_cd X g b) {o : Nat} (ho : o < X 1) : y_K (x_ad X b) (va_up g (X (42 + b)) (g (X (42 + b)) + 1)) o = va_up (y_K X g) b true o := by
  have h1 := y_op hw ho
  have h2 := y_op hw hb.1
  have e1 : x_ad X b (122 + o) = X (122 + o) := by rw [x_ad_at, if_neg (by omega), if_neg (by omega)]
  have e2 : x_ad X b (42 + o) = X (42 + o) := by rw [x_ad_at, if_neg (by omega), if_neg (by omega)]
  unfold y_K
  rw [e1, e2]
  by_cases e : o = b
  · subst e
    rw [va_up_s, va_up_s]
    exact decide_eq_true (by rw [hb.2]; omega)
  · rw [va_up_n e]
    by_cases e3 : X (42 + o) = X (42 + b)
    · rw [e3, va_up_s]
      refine decide_eq_decide.mpr ⟨fun q => ?_, fun q => by omega⟩
      apply Classical.byContradiction
      intro q2
      apply e
      have e4 : X (122 + o) = X (122 + b) := by rw [hb.2]; omega
      have h3 := h1.2.2.2.2.2.1
      rw [e3, e4, h2.2.2.2.2.2.1] at h3
      exact h3.symm
    · rw [va_up_n e3]
theorem y_ad_lo {X : x_T} {b k : Nat} (hk : k < 179) : x_ad X b k = X k := by rw [x_ad_at, if_neg (by omega), if_neg (by omega)]
theorem y_wf_ad {X : x_T} {b : Nat} (hw : y_wf X) (hb : X (179 + X (62 + b)) < 5) : y_wf (x_ad X b) := y_wf_eq hw (fun k hk => y_ad_lo hk) (fun m hm => by
  have h := (y_mn hw hm).2
  rw [x_ad_at]
  by_cases e : 179 + m = 179 + X (62 + b)
  · rw [if_pos e]; omega
  · rw [if_neg e]
    by_cases e2 : 179 + m = 183 + 5 * X (62 + b) + X (179 + X (62 + b))
    · omega
    · rw [if_neg e2]; exact h)
set_option maxHeartbeats 1000000 in
theorem y_iv_s {X : x_T} {g fx rk : Nat → Nat} {c b T : Nat} (h : y_iv X g fx rk c) (hb : y_cd X g b) (hT : T ≤ 999) : y_iv (x_ad X b) (va_up g (X (42 + b)) (g (X (42 + b)) + 1)) (va_up fx b (x_cs X fx T b)) (va_up rk b (20 + c)) (c + 1) := by
  have hw := h.1.1
  have hs := y_sz hw
  have hbo := y_op hw hb.1
  have hm := hbo.2.2.2.2.2.2.1
  have hr := y_room h hb
  have hcs := y_cs h hb hT
  have hK := fun o ho => y_K_ad hw hb (o := o) ho
  have e0 : x_ad X b 0 = X 0 := y_ad_lo (by omega)
  have e1 : x_ad X b 1 = X 1 := y_ad_lo (by omega)
  have eon : ∀ m9, m9 < 4 → x_ad X b (179 + m9) = if m9 = X (62 + b) then X (179 + m9) + 1 else X (179 + m9) := fun m9 h9 => by
    rw [x_ad_at]
    by_cases e : m9 = X (62 + b)
    · rw [if_pos (by omega), if_pos e, e]
    · rw [if_neg (by omega), if_neg (by omega), if_neg e]
  have eod : ∀ m9 p, m9 < 4 → p < 5 → x_ad X b (183 + 5 * m9 + p) = if m9 = X (62 + b) ∧ p = X (179 + X (62 + b)) then b else X (183 + 5 * m9 + p) := fun m9 p h9 hp => by
    rw [x_ad_at, if_neg (by omega)]
    by_cases e : m9 = X (62 + b) ∧ p = X (179 + X (62 + b))
    · rw [if_pos e, if_pos (by omega)]
    · rw [if_neg e, if_neg (by omega)]
  have ne : ∀ m9 p, m9 < 4 → p < X (179 + m9) → X (183 + 5 * m9 + p) ≠ b := fun m9 p h9 hp z => by
    have q := (h.2.2.1 m9 p h9 hp).2.2
    rw [z, y_nK hb] at q
    cases q
  refine ⟨⟨y_wf_ad hw hr, fun j hj => ?_, ?_⟩, fun o ho hk => ?_, fun m9 p hm9 hp => ?_, fun m9 p hm9 hp => ?_, fun o ho hk => ?_, fun j i hj hi => ?_⟩
  · rw [e0] at hj
    rw [y_ad_lo (by omega)]
    have h1 := h.1.2.1 j hj
    by_cases e : j = X (42 + b)
    · subst e; rw [va_up_s, ← hb.2]; omega
    · rw [va_up_n e]; exact h1
  · rw [e1, x_ct_congr (X 1) hK, x_ct_up (y_nK hb), if_pos hb.1, ← h.1.2.2]
  · rw [e1] at ho
    rw [hK o ho] at hk
    have ho2 := y_op hw ho
    rw [y_ad_lo (k := 42 + o) (by omega), y_ad_lo (k := 2 + X (42 + o)) (by omega), y_ad_lo (k := 82 + o) (by omega)]
    by_cases e : o = b
    · subst e; rw [va_up_s, va_up_s]; omega
    · rw [va_up_n e] at hk ⊢
      rw [va_up_n e]
      have := h.2.1 o ho hk
      omega
  · have h5 := (y_mn hw hm9).2
    rw [eon m9 hm9] at hp
    by_cases e : m9 = X (62 + b) ∧ p = X (179 + X (62 + b))
    · rw [eod m9 p hm9 (by have := e.1; have := e.2; omega), if_pos e, e1, y_ad_lo (k := 62 + b) (by have := hb.1; omega), hK b hb.1, va_up_s]
      exact ⟨hb.1, e.1.symm, rfl⟩
    · have hp2 : p < X (179 + m9) := by
        by_cases e2 : m9 = X (62 + b)
        · rw [if_pos e2] at hp; subst e2; have : p ≠ X (179 + X (62 + b)) := fun z => e ⟨rfl, z⟩; omega
        · rw [if_neg e2] at hp; exact hp
      have a := h.2.2.1 m9 p hm9 hp2
      rw [eod m9 p hm9 (by omega), if_neg e, e1, y_ad_lo (k := 62 + X (183 + 5 * m9 + p)) (by have := a.1; omega), hK _ a.1, va_up_n (ne m9 p hm9 hp2)]
      exact a
  · have h5 := (y_mn hw hm9).2
    rw [eon m9 hm9] at hp
    have hp5 : p + 1 < 5 := by
      by_cases e2 : m9 = X (62 + b)
      · rw [if_pos e2, e2] at hp; omega
      · rw [if_neg e2] at hp; omega
    have hp1 : p < X (179 + m9) := by
      by_cases e2 : m9 = X (62 + b)
      · rw [if_pos e2] at hp; omega
      · rw [if_neg e2] at hp; omega
    have a := h.2.2.1 m9 p hm9 hp1
    have e : ¬ (m9 = X (62 + b) ∧ p = X (179 + X (62 + b))) := fun z => by have := z.2; rw [← z.1] at this; omega
    rw [eod m9 p hm9 (by omega), if_neg e, eod m9 (p + 1) hm9 hp5, va_up_n (ne m9 p hm9 hp1)]
    by_cases e3 : m9 = X (62 + b) ∧ p + 1 = X (179 + X (62 + b))
    · rw [if_pos e3, va_up_s]
      exact (h.2.1 _ a.1 a.2.2).2.2
    · have hp2 : p + 1 < X (179 + m9) := by
        by_cases e2 : m9 = X (62 + b)
        · rw [if_pos e2] at hp; subst e2; have : p + 1 ≠ X (179 + X (62 + b)) := fun z => e3 ⟨rfl, z⟩; omega
        · rw [if_neg e2] at hp; exact hp
      rw [if_neg e3, va_up_n (ne m9 (p + 1) hm9 hp2)]
      exact h.2.2.2.1 m9 p hm9 hp2
  · rw [e1] at ho
    rw [hK o ho] at hk
    have ho2 := y_op hw ho
    rw [y_ad_lo (k := 62 + o) (by omega), eon _ ho2.2.2.2.2.2.2.1]
    by_cases e : o = b
    · subst e
      refine ⟨X (179 + X (62 + o)), by rw [if_pos rfl]; omega, ?_⟩
      rw [eod _ _ hm hr, if_pos ⟨rfl, rfl⟩]
    · rw [va_up_n e] at hk
      obtain ⟨p, p1, p2⟩ := h.2.2.2.2.1 o ho hk
      have h5 := (y_mn hw ho2.2.2.2.2.2.2.1).2
      refine ⟨p, by split <;> omega, ?_⟩
      rw [eod _ _ ho2.2.2.2.2.2.2.1 (by omega), if_neg (fun z => by have := z.2; rw [← z.1] at this; omega)]
      exact p2
  · rw [e0] at hj
    have hjb := y_jb hw hj
    have hgj := h.1.2.1 j hj
    have hi2 : i + 1 < X (17 + j) := by
      by_cases e : j = X (42 + b)
      · subst e; rw [va_up_s] at hi; have := hb.2; omega
      · rw [va_up_n e] at hi; omega
    have r1 := y_rt hw hj (i := i) (by omega)
    have r2 := y_rt hw hj (i := i + 1) hi2
    rw [y_ad_lo (by omega), y_ad_lo (by omega)]
    have n1 : i < g j → X (22 + 4 * j + i) ≠ b := fun q z => by
      have q2 := hb.2
      rw [← z, r1.2.1, r1.2.2] at q2
      omega
    by_cases e : j = X (42 + b)
    · by_cases e2 : i + 1 = g j
      · have e3 : X (22 + 4 * j + (i + 1)) = b := by
          have q2 := hb.2
          rw [← e] at q2
          have q3 := hbo.2.2.2.2.2.1
          rw [← e, q2, ← e2] at q3
          exact q3
        rw [va_up_n (n1 (by omega)), e3, va_up_s]
        exact (h.2.1 _ r1.1 (decide_eq_true (by rw [r1.2.1, r1.2.2]; omega))).2.2
      · have hi3 : i + 1 < g j := by subst e; rw [va_up_s] at hi; omega
        have n2 : X (22 + 4 * j + (i + 1)) ≠ b := fun z => by
          have q2 := hb.2
          rw [← z, r2.2.1, r2.2.2] at q2
          omega
        rw [va_up_n (n1 (by omega)), va_up_n n2]
        exact h.2.2.2.2.2 j i hj hi3
    · rw [va_up_n e] at hi
      have n2 : X (22 + 4 * j + (i + 1)) ≠ b := fun z => by
        have q2 := hb.2
        rw [← z, r2.2.1, r2.2.2] at q2
        omega
      rw [va_up_n (n1 (by omega)), va_up_n n2]
      exact h.2.2.2.2.2 j i hj hi
/-- all in the orders: they are whole and have no cycle -/
theorem y_iv_all {X : x_T} {g fx rk : Nat → Nat} {c : Nat} (h : y_iv X g fx rk c) (hA : ∀ o, o < X 1 → y_K X g o = true) : x_gd X := by
  have hw := h.1.1
  have hx : x_wf X := ⟨hw.1.1, hw.1.2, hw.2.1, hw.2.2.1, hw.2.2.2.1, hw.2.2.2.2.1, hw.2.2.2.2.2.1, hw.2.2.2.2.2.2.1, fun m hm => ⟨(y_mn hw hm).2, fun p hp => ⟨(h.2.2.1 m p hm hp).1, (h.2.2.1 m p hm hp).2.1, fun p' hp' e => y_in h hm hp hp' e⟩⟩, fun o ho => h.2.2.2.2.1 o ho (hA o ho)⟩
  refine ⟨hx, rk, fun o ho => ⟨fun q hq => ?_, fun q hq => ?_⟩⟩
  · obtain ⟨a1, a2, a3, a4⟩ := x_jp_lt hx ho hq
    have ho2 := y_op hw ho
    have hk : X (122 + o) < g (X (42 + o)) := of_decide_eq_true (hA o ho)
    have := h.2.2.2.2.2 (X (42 + o)) (X (122 + o) - 1) ho2.2.2.1 (by omega)
    rw [show X (122 + o) - 1 + 1 = X (122 + o) by omega, ho2.2.2.2.2.2.1, ← a4] at this
    exact this
  · obtain ⟨a1, a2, a3, -⟩ := x_mp_lt hx ho hq
    have p1 := x_po_ok hx ho
    have p2 := x_po_ok hx a1
    have ho2 := y_op hw ho
    have := h.2.2.2.1 (X (62 + o)) (x_po X q) ho2.2.2.2.2.2.2.1 (by omega)
    rw [a2] at p2
    rw [a3, p1.2, p2.2] at this
    exact this
theorem y_none {X : x_T} {g fx rk : Nat → Nat} {c T rl : Nat} (h : y_iv X g fx rk c) (hn : x_cz X g fx T rl (X 0) = none) : ∀ o, o < X 1 → y_K X g o = true := fun o ho => by
  have ho2 := y_op h.1.1 ho
  refine decide_eq_true (Classical.byContradiction fun q => ?_)
  exact x_cz_ex (X 0) (X (42 + o)) ho2.2.2.1 (by omega) hn
theorem y_full {X : x_T} {g fx rk : Nat → Nat} {c : Nat} (h : y_iv X g fx rk c) (hc : X 1 ≤ c) : ∀ o, o < X 1 → y_K X g o = true := by
  have h1 := x_ct_le (K := y_K X g) (X 1)
  have h2 := h.1.2.2
  exact x_ct_all (X 1) (by omega)
theorem y_full_n {X : x_T} {g fx rk : Nat → Nat} {c T rl : Nat} (h : y_iv X g fx rk c) (hc : X 1 ≤ c) : x_cz X g fx T rl (X 0) = none := by
  cases hb : x_cz X g fx T rl (X 0) with
  | none => rfl
  | some b =>
    have h1 := y_cz h.1.1 (Nat.le_refl _) hb
    have h2 := y_full h hc b h1.1
    rw [y_nK h1] at h2
    cases h2
theorem x_bu_gd {T rl : Nat} (hT : T ≤ 999) : ∀ (f : Nat) (X : x_T) (g fx rk : Nat → Nat) (c : Nat), y_iv X g fx rk c → X 1 ≤ c + f → x_gd (x_bu T rl f X g fx)
  | 0, X, g, fx, rk, c, h, hc => by show x_gd X; exact y_iv_all h (y_full h (by omega))
  | f + 1, X, g, fx, rk, c, h, hc => by
    cases hb : x_cz X g fx T rl (X 0) with
    | none => rw [x_bu_n hb]; exact y_iv_all h (y_none h hb)
    | some b =>
      have h1 := y_cz h.1.1 (Nat.le_refl _) hb
      rw [x_bu_s hb]
      refine x_bu_gd hT f _ _ _ _ (c + 1) (y_iv_s h h1 hT) ?_
      rw [y_ad_lo (by omega)]
      omega
/-! ===== what is kept ===== -/
theorem x_ct_dc {K : Nat → Bool} : ∀ n, (∀ p, p + 1 < n → K (p + 1) = true → K p = true) → ∀ p, p < n → (K p = true ↔ p < x_ct K n)
  | 0, _, p, hp => absurd hp (by omega)
  | n + 1, h, p, hp => by
    have ih := x_ct_dc n (fun p hp => h p (by omega))
    rw [x_ct_s]
    have hl := x_ct_le (K := K) n
    cases hn : K n with
    | true =>
      have hall : ∀ k, k < n → K k = true := by
        have : ∀ d k, k + d = n → K k = true := by
          intro d
          induction d with
          | zero => intro k hk; rw [show k = n by omega]; exact hn
          | succ d ihd =>
            intro k hk
            exact h k (by omega) (ihd (k + 1) (by omega))
        exact fun k hk => this (n - k) k (by omega)
      rw [x_ct_full n hall, if_pos rfl]
      refine ⟨fun _ => hp, fun _ => ?_⟩
      by_cases e : p = n
      · rw [e]; exact hn
      · exact hall p (by omega)
    | false =>
      rw [if_neg (fun z => by cases z)]
      by_cases e : p = n
      · subst e; rw [hn]; exact ⟨fun z => (by cases z), fun z => absurd z (by omega)⟩
      · exact ih p (by omega)
theorem x_ct_pre {K : Nat → Bool} {a : Nat} : ∀ n, a ≤ n → (∀ p, p < a → K p = true) → (∀ p, a ≤ p → p < n → K p = false) → x_ct K n = a
  | 0, h, _, _ => by show 0 = a; omega
  | n + 1, h, h1, h2 => by
    rw [x_ct_s]
    by_cases e : a = n + 1
    · rw [x_ct_full n (fun k hk => h1 k (by omega)), h1 n (by omega), if_pos rfl, e]
    · rw [x_ct_pre n (by omega) h1 (fun p hp hp2 => h2 p hp (by omega)), h2 n (by omega) (by omega), if_neg (fun z => by cases z)]; rfl
theorem x_ct_en {n : Nat} {e : Nat → Nat} : ∀ (a : Nat) (K : Nat → Bool), (∀ i, i < a → e i < n) → (∀ i j, i < j → j < a → e i ≠ e j) → (∀ k, k < n → (K k = true ↔ ∃ i, i < a ∧ k = e i)) → x_ct K n = a
  | 0, K, _, _, h => by
    rw [← x_ct_nil n]
    refine x_ct_congr n (fun k hk => ?_)
    cases hb : K k with
    | false => rfl
    | true => obtain ⟨i, hi, -⟩ := (h k hk).mp hb; exact absurd hi (by omega)
  | a + 1, K, h1, h2, h => by
    have ih := x_ct_en a (va_up K (e a) false) (fun i hi => h1 i (by omega)) (fun i j hi hj => h2 i j hi (by omega)) (fun k hk => by
      by_cases c : k = e a
      · subst c
        rw [va_up_s]
        exact ⟨fun z => (by cases z), fun ⟨i, hi, hz⟩ => absurd hz.symm (h2 i a hi (by omega))⟩
      · rw [va_up_n c, h k hk]
        exact ⟨fun ⟨i, hi, hz⟩ => ⟨i, by have : i ≠ a := fun q => c (by rw [hz, q])
                                         omega, hz⟩, fun ⟨i, hi, hz⟩ => ⟨i, by omega, hz⟩⟩)
    have h3 := x_ct_d (K := K) (K' := va_up K (e a) false) (b := e a) (n := n) ((h _ (h1 a (by omega))).mpr ⟨a, by omega, rfl⟩) va_up_s (fun i hi => va_up_n hi) (h1 a (by omega))
    omega
theorem x_t0_j {X : x_T} (hg : x_gd X) {o q : Nat} (ho : o < X 1) (h : x_jp X o = some q) : x_t0 X q < x_t0 X o := by
  have h1 := x_jp_lt hg.1 ho h
  have h2 := (x_ti_eq (hk := none) (hu := 0) hg.1 hg.2 ho).1
  have h3 := x_t0_bd hg ho
  have h4 := (x_op hg.1 h1.1).2.2.2.2.2.2.2.1
  unfold x_rd at h2
  rw [h] at h2
  dsimp only at h2
  have h5 : x_t0 X q + X (82 + q) ≤ x_r0 X o := by
    show x_ti X n0 none 0 q + X (82 + q) ≤ x_re X n0 none 0 o
    rw [h2]
    omega
  omega
theorem x_t0_m {X : x_T} (hg : x_gd X) {o q : Nat} (ho : o < X 1) (h : x_mp X n0 o = some q) : x_t0 X q < x_t0 X o := by
  have h1 := x_mp_lt hg.1 ho h
  have h2 := (x_ti_eq (hk := none) (hu := 0) hg.1 hg.2 ho).1
  have h3 := x_t0_bd hg ho
  have h4 := (x_op hg.1 h1.1).2.2.2.2.2.2.2.1
  unfold x_rd at h2
  rw [h] at h2
  dsimp only at h2
  have h5 : x_t0 X q + X (82 + q) ≤ x_r0 X o := by
    show x_ti X n0 none 0 q + X (82 + q) ≤ x_re X n0 none 0 o
    rw [h2]
    omega
  omega
theorem x_jp_rt {X : x_T} (hw : x_wf X) {j i : Nat} (hj : j < X 0) (hi : i + 1 < X (17 + j)) : x_jp X (X (22 + 4 * j + (i + 1))) = some (X (22 + 4 * j + i)) := by
  have h := x_rt hw hj hi
  unfold x_jp
  rw [h.2.1, h.2.2, if_neg (by omega), show i + 1 - 1 = i by omega]
theorem x_mp_od {X : x_T} (hw : x_wf X) {m p : Nat} (hm : m < 4) (hp : p + 1 < X (179 + m)) : x_mp X n0 (X (183 + 5 * m + (p + 1))) = some (X (183 + 5 * m + p)) := by
  have h := x_od hw hm hp
  have h2 := x_po_eq hw hm hp
  unfold x_mp
  rw [h.2, h2, if_neg (fun z => z.elim (fun q => by cases q) (fun q => by omega)), show p + 1 - 1 = p by omega]
/-- how many stay on a machine, of a job -/
noncomputable def x_sy (X : x_T) (T m : Nat) : Nat := x_ct (fun p => decide (x_t0 X (X (183 + 5 * m + p)) < T)) (X (179 + m))
noncomputable def x_g0 (X : x_T) (T j : Nat) : Nat := x_ct (fun o => decide (X (42 + o) = j ∧ x_t0 X o < T)) (X 1)
theorem x_sy_i {X : x_T} (hg : x_gd X) {T m p : Nat} (hm : m < 4) (hp : p < X (179 + m)) : x_t0 X (X (183 + 5 * m + p)) < T ↔ p < x_sy X T m := by
  have h := x_ct_dc (K := fun p => decide (x_t0 X (X (183 + 5 * m + p)) < T)) (X (179 + m)) (fun p hp h => by
    have h1 := of_decide_eq_true h
    have h2 := x_t0_m hg (x_od hg.1 hm hp).1 (x_mp_od hg.1 hm hp)
    exact decide_eq_true (by omega)) p hp
  exact ⟨fun q => h.mp (decide_eq_true q), fun q => of_decide_eq_true (h.mpr q)⟩
theorem x_sy_eq {X : x_T} {T m a : Nat} (ha : a ≤ X (179 + m)) (h1 : ∀ p, p < a → x_t0 X (X (183 + 5 * m + p)) < T) (h2 : a < X (179 + m) → T ≤ x_t0 X (X (183 + 5 * m + a))) (hg : x_gd X) (hm : m < 4) : a = x_sy X T m := by
  have h3 : x_sy X T m ≤ X (179 + m) := x_ct_le _
  rcases Nat.lt_trichotomy a (x_sy X T m) with h | h | h
  · have := (x_sy_i hg hm (T := T) (p := a) (by omega)).mpr h
    have := h2 (by omega)
    omega
  · exact h
  · have := (x_sy_i hg hm (T := T) (p := x_sy X T m) (by omega)).mp (h1 _ h)
    omega
theorem x_g0_dc {X : x_T} (hg : x_gd X) {T j : Nat} (hj : j < X 0) : ∀ p, p < X (17 + j) → (decide (x_t0 X (X (22 + 4 * j + p)) < T) = true ↔ p < x_ct (fun i => decide (x_t0 X (X (22 + 4 * j + i)) < T)) (X (17 + j))) :=
  x_ct_dc (K := fun i => decide (x_t0 X (X (22 + 4 * j + i)) < T)) (X (17 + j)) (fun p hp h => by
    have h1 := of_decide_eq_true h
    have h2 := x_t0_j hg (x_rt hg.1 hj hp).1 (x_jp_rt hg.1 hj hp)
    exact decide_eq_true (by omega))
theorem x_g0_e {X : x_T} (hg : x_gd X) {T j : Nat} (hj : j < X 0) : x_g0 X T j = x_ct (fun i => decide (x_t0 X (X (22 + 4 * j + i)) < T)) (X (17 + j)) := by
  have hw := hg.1
  have hdc := x_g0_dc hg (T := T) hj
  have hle : x_ct (fun i => decide (x_t0 X (X (22 + 4 * j + i)) < T)) (X (17 + j)) ≤ X (17 + j) := x_ct_le _
  refine x_ct_en (e := fun i => X (22 + 4 * j + i)) _ _ (fun i hi => (x_rt hw hj (i := i) (by omega)).1) (fun i i' h1 h2 e => ?_) (fun k hk => ⟨fun q => ?_, fun ⟨i, hi, hz⟩ => ?_⟩)
  · have a := (x_rt hw hj (i := i) (by omega)).2.2
    have b := (x_rt hw hj (i := i') (by omega)).2.2
    have e : X (22 + 4 * j + i) = X (22 + 4 * j + i') := e
    rw [e] at a
    omega
  · have q := of_decide_eq_true q
    have hk2 := x_op hw hk
    rw [q.1] at hk2
    have e3 := hk2.2.2.2.2.2.1
    exact ⟨X (122 + k), (hdc _ hk2.2.2.2.1).mp (decide_eq_true (by rw [e3]; exact q.2)), e3.symm⟩
  · have a := x_rt hw hj (i := i) (by omega)
    have b := of_decide_eq_true ((hdc i (by omega)).mpr hi)
    subst hz
    exact decide_eq_true ⟨a.2.1, b⟩
theorem x_g0_i {X : x_T} (hg : x_gd X) {T o : Nat} (ho : o < X 1) : x_t0 X o < T ↔ X (122 + o) < x_g0 X T (X (42 + o)) := by
  have ho2 := x_op hg.1 ho
  rw [x_g0_e hg ho2.2.2.1, ← x_g0_dc hg ho2.2.2.1 _ ho2.2.2.2.1, ho2.2.2.2.2.2.1]
  exact ⟨fun q => decide_eq_true q, fun q => of_decide_eq_true q⟩
theorem x_g0_le {X : x_T} (hg : x_gd X) {T j : Nat} (hj : j < X 0) : x_g0 X T j ≤ X (17 + j) := by
  rw [x_g0_e hg hj]
  exact x_ct_le _
def x_kq (X : x_T) (f : Nat → Nat) : Nat → x_T
  | 0 => X
  | n + 1 => va_up (x_kq X f n) (179 + n) (f n)
theorem x_kq_at {X : x_T} {f : Nat → Nat} : ∀ n k, x_kq X f n k = if 179 ≤ k ∧ k < 179 + n then f (k - 179) else X k
  | 0, k => by rw [if_neg (by omega)]; rfl
  | n + 1, k => by
    by_cases e : k = 179 + n
    · subst e
      rw [if_pos (by omega)]
      show va_up _ _ _ _ = _
      rw [va_up_s, show 179 + n - 179 = n by omega]
    · show va_up _ _ _ _ = _
      rw [va_up_n e, x_kq_at n k]
      by_cases c : 179 ≤ k ∧ k < 179 + n
      · rw [if_pos c, if_pos (by omega)]
      · rw [if_neg c, if_neg (by omega)]
theorem x_kq_lo {X : x_T} {f : Nat → Nat} {n k : Nat} (h : k < 179 ∨ 179 + n ≤ k) : x_kq X f n k = X k := by rw [x_kq_at, if_neg (by omega)]
theorem x_kq_on {X : x_T} {f : Nat → Nat} {n m : Nat} (h : m < n) : x_kq X f n (179 + m) = f m := by rw [x_kq_at, if_pos (by omega), show 179 + m - 179 = m by omega]
noncomputable def x_kp (X : x_T) (T : Nat) : x_T := x_kq X (x_sy X T) 4
theorem x_kp_K {X : x_T} (hg : x_gd X) {T o : Nat} (ho : o < X 1) : y_K (x_kp X T) (x_g0 X T) o = decide (x_t0 X o < T) := by
  have ho2 := x_op hg.1 ho
  unfold y_K x_kp
  rw [x_kq_lo (by omega), x_kq_lo (by omega)]
  exact decide_eq_decide.mpr (x_g0_i hg ho).symm
theorem x_kp_iv {X : x_T} (hg : x_gd X) (T : Nat) : ∃ rk, y_iv (x_kp X T) (x_g0 X T) (x_t0 X) rk (x_ct (fun o => decide (x_t0 X o < T)) (X 1)) := by
  have hw := hg.1
  have hs := x_sz hw
  obtain ⟨K', rk, T', M', hA, hr⟩ := x_tb_ok (op := n0) (hk := none) (hu := 0) hw hg.2
  have lo : ∀ k, k < 179 → x_kp X T k = X k := fun k hk => x_kq_lo (Or.inl hk)
  have on : ∀ m, m < 4 → x_kp X T (179 + m) = x_sy X T m := fun m hm => x_kq_on hm
  have od : ∀ k, x_kp X T (183 + k) = X (183 + k) := fun k => x_kq_lo (Or.inr (by omega))
  have sle : ∀ m, x_sy X T m ≤ X (179 + m) := fun m => x_ct_le _
  have hyw : y_wf (x_kp X T) := y_wf_eq (x_wf_y hw) lo (fun m hm => by rw [on m hm]; have := sle m; have := (x_mn hw hm).2; omega)
  have hK := fun o (ho : o < X 1) => x_kp_K hg (T := T) ho
  refine ⟨rk, ⟨hyw, fun j hj => ?_, ?_⟩, fun o ho hk => ?_, fun m p hm hp => ?_, fun m p hm hp => ?_, fun o ho hk => ?_, fun j i hj hi => ?_⟩
  · rw [lo 0 (by omega)] at hj
    rw [lo _ (by omega)]
    exact x_g0_le hg hj
  · rw [lo 1 (by omega)]
    exact (x_ct_congr _ hK).symm
  · rw [lo 1 (by omega)] at ho
    have ho2 := x_op hw ho
    rw [lo (42 + o) (by omega), lo (2 + X (42 + o)) (by omega), lo (82 + o) (by omega)]
    have h1 := x_t0_bd hg ho
    have h2 := (x_TT_bd hw T' (rk o + 1) o ho (by omega) (hA o ho)).2.2
    have h3 : x_t0 X o = x_ti X n0 none 0 o := rfl
    have h4 : x_r0 X o = x_re X n0 none 0 o := rfl
    have h5 := hr o ho
    omega
  · rw [on m hm] at hp
    have h1 := x_od hw hm (p := p) (by have := sle m; omega)
    rw [Nat.add_assoc 183, od, ← Nat.add_assoc 183, lo 1 (by omega), lo (62 + _) (by omega), hK _ h1.1]
    exact ⟨h1.1, h1.2, decide_eq_true ((x_sy_i hg hm (by have := sle m; omega)).mpr hp)⟩
  · rw [on m hm] at hp
    rw [Nat.add_assoc 183, od, ← Nat.add_assoc 183, Nat.add_assoc 183 (5 * m) (p + 1), od, ← Nat.add_assoc 183]
    have hp2 : p + 1 < X (179 + m) := by have := sle m; omega
    have h1 := x_od hw hm hp2
    exact ((T' _ h1.1 (hA _ h1.1)).2.1 _ (x_mp_od hw hm hp2)).2
  · rw [lo 1 (by omega)] at ho
    rw [hK o ho] at hk
    have ho2 := x_op hw ho
    obtain ⟨p, p1, p2⟩ := x_pos hw ho
    rw [lo (62 + o) (by omega), on _ ho2.2.2.2.2.2.2.1]
    refine ⟨p, (x_sy_i hg ho2.2.2.2.2.2.2.1 p1).mp (by rw [p2]; exact of_decide_eq_true hk), ?_⟩
    rw [Nat.add_assoc 183, od, ← Nat.add_assoc 183]
    exact p2
  · rw [lo 0 (by omega)] at hj
    have hjb := x_jb hw hj
    have hle := x_g0_le hg (T := T) hj
    have hi2 : i + 1 < X (17 + j) := by omega
    rw [lo _ (by omega), lo _ (by omega)]
    have h1 := x_rt hw hj hi2
    exact ((T' _ h1.1 (hA _ h1.1)).1 _ (x_jp_rt hw hj hi2)).2
noncomputable def x_di (X : x_T) (T rl : Nat) : x_T := x_bu T rl 20 (x_kp X T) (x_g0 X T) (x_t0 X)
theorem x_di_gd {X : x_T} (hg : x_gd X) {T rl : Nat} (hT : T ≤ 999) : x_gd (x_di X T rl) := by
  obtain ⟨rk, h⟩ := x_kp_iv hg T
  have h2 := x_sz hg.1
  refine x_bu_gd hT 20 _ _ _ rk _ h ?_
  have : x_kp X T 1 = X 1 := x_kq_lo (by omega)
  omega
noncomputable def A_dispatch (z : z_T) (rl : Int32) : a_T := if iIn rl 0 3 = true then (0, nI (x_s0 (x_di (z 0) 0 (iN rl))), va_up z 0 (x_di (z 0) 0 (iN rl))) else (1, 0, z)
noncomputable def A_repair (z : z_T) (t rl : Int32) : a_T := if (iIn t 0 999 && iIn rl 0 3) = true then (0, nI (x_s0 (x_di (z 0) (iN t) (iN rl))), va_up z 0 (x_di (z 0) (iN t) (iN rl))) else (1, 0, z)
end
