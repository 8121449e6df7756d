/-! ===== pure: the shifting bottleneck procedure ===== -/
theorem b_up1 {op : Nat → Bool} {m : Nat} (h : op m = true) : va_up op m true = op := by
  funext k
  by_cases e : k = m
  · subst e; rw [va_up_s, h]
  · exact va_up_n e
theorem b_up2 {op : Nat → Bool} {m : Nat} (h : op m = true) : va_up (va_up op m false) m true = op := by
  funext k
  by_cases e : k = m
  · subst e; rw [va_up_s, h]
  · rw [va_up_n e, va_up_n e]
theorem b_up3 {op : Nat → Bool} {m : Nat} (h : op m = false) : va_up op m false = op := by
  funext k
  by_cases e : k = m
  · subst e; rw [va_up_s, h]
  · exact va_up_n e
noncomputable def b_v (X : x_T) (op : Nat → Bool) (m : Nat) : Nat := x_bv X (va_up op m false) m
/-- the first of the open machines with the greatest of the least makespans -/
noncomputable def b_ch (X : x_T) (op : Nat → Bool) : Nat → Option Nat
  | 0 => none
  | m + 1 => if op m = true then (match b_ch X op m with
      | none => some m
      | some c => if b_v X op c < b_v X op m then some m else some c) else b_ch X op m
theorem b_ch_no {X : x_T} {op : Nat → Bool} {n : Nat} (h : ¬ op n = true) : b_ch X op (n + 1) = b_ch X op n := by
  show (if _ then _ else _) = _
  rw [if_neg h]
theorem b_ch_n {X : x_T} {op : Nat → Bool} {n : Nat} (h : op n = true) (h2 : b_ch X op n = none) : b_ch X op (n + 1) = some n := by
  show (if _ then _ else _) = _
  rw [if_pos h, h2]
theorem b_ch_y {X : x_T} {op : Nat → Bool} {n c : Nat} (h : op n = true) (h2 : b_ch X op n = some c) : b_ch X op (n + 1) = if b_v X op c < b_v X op n then some n else some c := by
  show (if _ then _ else _) = _
  rw [if_pos h, h2]
theorem b_ch_ok {X : x_T} {op : Nat → Bool} : ∀ n c, b_ch X op n = some c → c < n ∧ op c = true
  | 0, c, h => by cases h
  | n + 1, c, h => by
    by_cases e : op n = true
    · cases hb : b_ch X op n with
      | none => rw [b_ch_n e hb] at h; cases h; exact ⟨by omega, e⟩
      | some c' =>
        rw [b_ch_y e hb] at h
        by_cases e2 : b_v X op c' < b_v X op n
        · rw [if_pos e2] at h; cases h; exact ⟨by omega, e⟩
        · rw [if_neg e2] at h; cases h
          have q := b_ch_ok n _ hb
          exact ⟨by omega, q.2⟩
    · rw [b_ch_no e] at h
      have q := b_ch_ok n c h
      exact ⟨by omega, q.2⟩
theorem b_ch_ex {X : x_T} {op : Nat → Bool} : ∀ n m, m < n → op m = true → b_ch X op n ≠ none
  | 0, m, h, _ => absurd h (by omega)
  | n + 1, m, h, ho => by
    by_cases e : op n = true
    · cases hb : b_ch X op n with
      | none => rw [b_ch_n e hb]; exact fun z => by cases z
      | some c =>
        rw [b_ch_y e hb]
        by_cases e2 : b_v X op c < b_v X op n
        · rw [if_pos e2]; exact fun z => by cases z
        · rw [if_neg e2]; exact fun z => by cases z
    · rw [b_ch_no e]
      exact b_ch_ex n m (by have : m ≠ n := fun z => e (by rw [← z]; exact ho); omega) ho
noncomputable def b_re (op : Nat → Bool) (sq : Nat → Nat) : Nat → x_T → x_T
  | 0, X => X
  | k + 1, X => x_bX (b_re op sq k X) op (sq k)
theorem b_re_ok {op : Nat → Bool} {sq : Nat → Nat} {X : x_T} {t : Nat} (hw : x_wf X) (ha : x_ac X op) (h : ∀ k, k < t → sq k < 4 ∧ op (sq k) = false) : ∀ k, k ≤ t → x_wf (b_re op sq k X) ∧ x_ac (b_re op sq k X) op
  | 0, _ => ⟨hw, ha⟩
  | k + 1, hk => by
    have q := b_re_ok hw ha h k (by omega)
    have r := x_b_ok q.1 (h k (by omega)).1 (h k (by omega)).2 (x_ac_mono q.2 (fun m hm => by
      by_cases e : m = sq k
      · subst e; exact va_up_s
      · rw [va_up_n e]; exact hm))
    exact ⟨r.2.2.1, r.2.2.2.1⟩
noncomputable def b_st (X : x_T) : Nat → x_T × (Nat → Bool) × (Nat → Nat)
  | 0 => (X, fun _ => true, fun _ => 0)
  | t + 1 => match b_ch (b_st X t).1 (b_st X t).2.1 4 with
    | none => b_st X t
    | some c => (b_re (va_up (b_st X t).2.1 c false) (b_st X t).2.2 t (x_bX (b_st X t).1 (va_up (b_st X t).2.1 c false) c), va_up (b_st X t).2.1 c false, va_up (b_st X t).2.2 t c)
theorem b_st_s {X : x_T} {t c : Nat} (h : b_ch (b_st X t).1 (b_st X t).2.1 4 = some c) : b_st X (t + 1) = (b_re (va_up (b_st X t).2.1 c false) (b_st X t).2.2 t (x_bX (b_st X t).1 (va_up (b_st X t).2.1 c false) c), va_up (b_st X t).2.1 c false, va_up (b_st X t).2.2 t c) := by
  show (match b_ch (b_st X t).1 (b_st X t).2.1 4 with
    | none => b_st X t
    | some c => _) = _
  rw [h]
def b_iv (X : x_T) (op : Nat → Bool) (sq : Nat → Nat) (t : Nat) : Prop := (x_wf X ∧ x_ac X op) ∧ (∀ k, k < t → sq k < 4 ∧ op (sq k) = false) ∧ x_ct op 4 + t = 4
theorem b_iv_ch {X : x_T} {op : Nat → Bool} {sq : Nat → Nat} {t : Nat} (h : b_iv X op sq t) (ht : t < 4) : ∃ c, b_ch X op 4 = some c ∧ c < 4 ∧ op c = true := by
  obtain ⟨m, h1, h2⟩ := x_ct_ex (K := op) (n := 4) (by have := h.2.2; omega)
  cases hb : b_ch X op 4 with
  | none => exact absurd hb (b_ch_ex 4 m h1 h2)
  | some c => exact ⟨c, rfl, b_ch_ok 4 c hb⟩
/-- closing one machine more -/
theorem b_iv_c {X : x_T} {op : Nat → Bool} {sq : Nat → Nat} {t c : Nat} (h : b_iv X op sq t) (hc : c < 4) (ho : op c = true) : (x_wf (x_bX X (va_up op c false) c) ∧ x_ac (x_bX X (va_up op c false) c) (va_up op c false)) ∧ (∀ k, k < t → sq k < 4 ∧ va_up op c false (sq k) = false) := by
  have r := x_b_ok (op := va_up op c false) h.1.1 hc va_up_s (by rw [b_up2 ho]; exact h.1.2)
  refine ⟨⟨r.2.2.1, r.2.2.2.1⟩, fun k hk => ?_⟩
  have q := h.2.1 k hk
  refine ⟨q.1, ?_⟩
  rw [va_up_n (fun z => by have q2 := q.2; rw [z, ho] at q2; cases q2)]
  exact q.2
theorem b_iv_s {X : x_T} {op : Nat → Bool} {sq : Nat → Nat} {t c : Nat} (h : b_iv X op sq t) (hc : c < 4) (ho : op c = true) : b_iv (b_re (va_up op c false) sq t (x_bX X (va_up op c false) c)) (va_up op c false) (va_up sq t c) (t + 1) := by
  have q := b_iv_c h hc ho
  refine ⟨b_re_ok q.1.1 q.1.2 q.2 t (Nat.le_refl _), fun k hk => ?_, ?_⟩
  · by_cases e : k = t
    · subst e; rw [va_up_s]; exact ⟨hc, va_up_s⟩
    · rw [va_up_n e]; exact q.2 k (by omega)
  · have r := x_ct_d (K := op) (K' := va_up op c false) (b := c) (n := 4) ho va_up_s (fun i hi => va_up_n hi) hc
    have := h.2.2
    omega
theorem b_st_iv {X : x_T} (hw : x_wf X) : ∀ t, t ≤ 4 → b_iv (b_st X t).1 (b_st X t).2.1 (b_st X t).2.2 t
  | 0, _ => by
    refine ⟨⟨hw, fun o => X (122 + o), fun o ho => ⟨fun q hq => ?_, fun q hq => ?_⟩⟩, fun k hk => absurd hk (by omega), rfl⟩
    · have := (x_jp_lt hw ho hq).2.2.1
      show X (122 + q) < X (122 + o)
      omega
    · have := (x_mp_lt hw ho hq).2.2.2
      cases this
  | t + 1, ht => by
    have h := b_st_iv hw t (by omega)
    obtain ⟨c, h1, h2, h3⟩ := b_iv_ch h (by omega)
    rw [b_st_s h1]
    exact b_iv_s h h2 h3
noncomputable def x_sb (X : x_T) : x_T := (b_st X 4).1
noncomputable def x_sq (X : x_T) : Nat → Nat := (b_st X 4).2.2
theorem x_sb_gd {X : x_T} (hw : x_wf X) : x_gd (x_sb X) := by
  have h := b_st_iv hw 4 (Nat.le_refl _)
  obtain ⟨⟨h1, rk, h2⟩, -, h3⟩ := h
  have h4 : ∀ m, m < 4 → (b_st X 4).2.1 m = false := fun m hm => by
    cases hb : (b_st X 4).2.1 m with
    | false => rfl
    | true =>
      have q := (x_ct_lt2 (K := fun _ => false) (K' := (b_st X 4).2.1) 4 (fun k _ z => by cases z)).2 m hm rfl hb
      omega
  refine ⟨h1, rk, fun o ho => ⟨(h2 o ho).1, fun q hq => (h2 o ho).2 q ?_⟩⟩
  rw [x_mp_eq (op := n0) (op' := (b_st X 4).2.1) (h4 _ (x_op h1 ho).2.2.2.2.2.2.1)]
  exact hq
theorem x_sq_lt {X : x_T} (hw : x_wf X) {k : Nat} (hk : k < 4) : x_sq X k < 4 := ((b_st_iv hw 4 (Nat.le_refl _)).2.1 k hk).1
def z_sh (z : z_T) (X : x_T) (sq : Nat → Nat) : z_T := va_up (va_up (va_up z 0 X) 2 (va_up (z 2) 3 1)) 5 sq
noncomputable def A_shiftBottlenecks (z : z_T) : a_T := (0, nI (x_s0 (x_sb (z 0))), z_sh z (x_sb (z 0)) (x_sq (z 0)))
theorem z_wf_sh {z : z_T} (hz : z_wf z) : z_wf (z_sh z (x_sb (z 0)) (x_sq (z 0))) := by
  obtain ⟨h1, h2, h3, h4, h5, h6, h7⟩ := hz
  have hw := h1.1
  refine ⟨x_sb_gd hw, h2, h3, h4, h5, ⟨?_, fun _ k hk => ?_⟩, h7⟩
  · show 1 ≤ 1; omega
  · exact x_sq_lt hw hk
