/-! ===== pure: orders without a cycle, and their times ===== -/
/-- there is a rank: nothing waits for itself -/
def x_rk (X : x_T) (op : Nat → Bool) (rk : Nat → Nat) : Prop := ∀ o, o < X 1 → (∀ q, x_jp X o = some q → rk q < rk o) ∧ (∀ q, x_mp X op o = some q → rk q < rk o)
def x_ac (X : x_T) (op : Nat → Bool) : Prop := ∃ rk, x_rk X op rk
theorem x_TT_nil {X : x_T} {op : Nat → Bool} {hk : Option Nat} {hu : Nat} {r t rk : Nat → Nat} : x_TT X op hk hu (fun _ => false) r t rk := fun _ _ z => by cases z
theorem x_ct_nil : ∀ n, x_ct (fun _ => false) n = 0
  | 0 => rfl
  | n + 1 => by unfold x_ct; rw [x_ct_nil n]; rfl
theorem x_TT_grow {X : x_T} {op : Nat → Bool} {hk : Option Nat} {hu : Nat} (hw : x_wf X) : ∀ f (K : Nat → Bool) (r t rk : Nat → Nat), x_TT X op hk hu K r t rk → (∀ k, k < X 1 → K k = true → rk k < x_ct K (X 1)) → X 1 < x_ct K (X 1) + f → ∃ (K : Nat → Bool) (r t rk : Nat → Nat), x_TT X op hk hu K r t rk ∧ x_mx X op K ∧ (∀ k, k < X 1 → K k = true → rk k < x_ct K (X 1)) := by
  intro f
  induction f with
  | zero => intro K r t rk _ _ h; have := x_ct_le (K := K) (X 1); omega
  | succ f ih =>
    intro K r t rk T hc hf
    by_cases hm : x_mx X op K
    · exact ⟨K, r, t, rk, T, hm, hc⟩
    · have h1 : ∃ o, o < X 1 ∧ (∀ q, x_jp X o = some q → K q = true) ∧ (∀ q, x_mp X op o = some q → K q = true) ∧ K o = false := by
        apply Classical.byContradiction
        intro h
        exact hm (fun o h2 h3 h4 => by
          cases hb : K o with
          | true => rfl
          | false => exact absurd ⟨o, h2, h3, h4, hb⟩ h)
      obtain ⟨o, h2, h3, h4, h5⟩ := h1
      have hct : x_ct (va_up K o true) (X 1) = x_ct K (X 1) + 1 := by rw [x_ct_up h5, if_pos h2]
      refine ih _ _ _ _ (x_TT_add T hc hw h2 h5 h3 h4) (fun k h6 h7 => ?_) (by omega)
      rw [hct]
      by_cases e : k = o
      · subst e; rw [va_up_s]; omega
      · rw [va_up_n e] at h7 ⊢; have := hc k h6 h7; omega
theorem x_TT_ex {X : x_T} {op : Nat → Bool} {hk : Option Nat} {hu : Nat} (hw : x_wf X) : ∃ (K : Nat → Bool) (r t rk : Nat → Nat), x_TT X op hk hu K r t rk ∧ x_mx X op K ∧ (∀ k, k < X 1 → K k = true → rk k < x_ct K (X 1)) :=
  x_TT_grow hw (X 1 + 1) (fun _ => false) (fun _ => 0) (fun _ => 0) (fun _ => 0) x_TT_nil (fun _ _ z => by cases z) (by omega)
theorem x_mx_all {X : x_T} {op K : Nat → Bool} {rk : Nat → Nat} (hw : x_wf X) (hr : x_rk X op rk) (hm : x_mx X op K) : ∀ n o, o < X 1 → rk o < n → K o = true := by
  intro n
  induction n with
  | zero => intro o _ h; exact absurd h (by omega)
  | succ n ih =>
    intro o ho h
    obtain ⟨a, b⟩ := hr o ho
    exact hm o ho (fun q hq => ih q (x_jp_lt hw ho hq).1 (by have := a q hq; omega)) (fun q hq => ih q (x_mp_lt hw ho hq).1 (by have := b q hq; omega))
theorem x_TT_rk {X : x_T} {op : Nat → Bool} {hk : Option Nat} {hu : Nat} {K : Nat → Bool} {r t rk : Nat → Nat} (T : x_TT X op hk hu K r t rk) (hA : ∀ k, k < X 1 → K k = true) : x_rk X op rk := fun o ho => ⟨fun q hq => ((T o ho (hA o ho)).1 q hq).2, fun q hq => ((T o ho (hA o ho)).2.1 q hq).2⟩
/-- the times of all: ready, start -/
def x_sl (X : x_T) (op : Nat → Bool) (hk : Option Nat) (hu : Nat) (r t : Nat → Nat) : Prop := ∃ (K : Nat → Bool) (rk : Nat → Nat), x_TT X op hk hu K r t rk ∧ x_mx X op K ∧ (∀ k, k < X 1 → K k = true) ∧ (∀ k, k < X 1 → rk k < X 1)
theorem x_sl_ex {X : x_T} {op : Nat → Bool} {hk : Option Nat} {hu : Nat} (hw : x_wf X) (ha : x_ac X op) : ∃ p : (Nat → Nat) × (Nat → Nat), x_sl X op hk hu p.1 p.2 := by
  obtain ⟨K, r, t, rk, T, M, hc⟩ := x_TT_ex (op := op) (hk := hk) (hu := hu) hw
  obtain ⟨rk', h⟩ := ha
  have hA : ∀ k, k < X 1 → K k = true := fun k hk => x_mx_all hw h M (rk' k + 1) k hk (by omega)
  exact ⟨(r, t), K, rk, T, M, hA, fun k hk => by have := hc k hk (hA k hk); have := x_ct_le (K := K) (X 1); omega⟩
noncomputable def x_tb (X : x_T) (op : Nat → Bool) (hk : Option Nat) (hu : Nat) : (Nat → Nat) × (Nat → Nat) := @dite ((Nat → Nat) × (Nat → Nat)) (∃ p : (Nat → Nat) × (Nat → Nat), x_sl X op hk hu p.1 p.2) (Classical.propDecidable _) (fun h => Classical.choose h) (fun _ => (fun _ => 0, fun _ => 0))
noncomputable def x_re (X : x_T) (op : Nat → Bool) (hk : Option Nat) (hu : Nat) : Nat → Nat := (x_tb X op hk hu).1
noncomputable def x_ti (X : x_T) (op : Nat → Bool) (hk : Option Nat) (hu : Nat) : Nat → Nat := (x_tb X op hk hu).2
theorem x_tb_ok {X : x_T} {op : Nat → Bool} {hk : Option Nat} {hu : Nat} (hw : x_wf X) (ha : x_ac X op) : x_sl X op hk hu (x_re X op hk hu) (x_ti X op hk hu) := by
  have h := x_sl_ex (hk := hk) (hu := hu) hw ha
  unfold x_re x_ti x_tb
  rw [dif_pos h]
  exact Classical.choose_spec h
/-- whoever finds a maximal table finds these times -/
theorem x_tb_eq {X : x_T} {op : Nat → Bool} {hk : Option Nat} {hu : Nat} {K : Nat → Bool} {r t rk : Nat → Nat} (hw : x_wf X) (ha : x_ac X op) (T : x_TT X op hk hu K r t rk) (M : x_mx X op K) : ∀ o, o < X 1 → K o = true ∧ r o = x_re X op hk hu o ∧ t o = x_ti X op hk hu o := by
  intro o ho
  obtain ⟨K', rk', T', M', hA, -⟩ := x_tb_ok (hk := hk) (hu := hu) hw ha
  have h := x_TT_one hw T M T' M' o ho
  have h2 : K o = true := h.1.trans (hA o ho)
  exact ⟨h2, h.2 h2⟩
theorem x_sp_ac {X : x_T} {op : Nat → Bool} {hk : Option Nat} {hu : Nat} (hw : x_wf X) (ha : x_ac X op) : x_sp X op hk hu = some (x_mxe (fun k => x_ti X op hk hu k + X (82 + k)) (X 1)) := by
  obtain ⟨K', rk', T', M', hA, -⟩ := x_tb_ok (hk := hk) (hu := hu) hw ha
  exact x_sp_all hw T' M' hA
theorem x_ac_sp {X : x_T} {op : Nat → Bool} {hk : Option Nat} {hu v : Nat} (h : x_sp X op hk hu = some v) : x_ac X op := by
  unfold x_sp at h
  by_cases e : ∃ v, x_span X op hk hu v
  · obtain ⟨v, K, r, t, rk, T, M, hA, -⟩ := e
    exact ⟨rk, x_TT_rk T hA⟩
  · rw [dif_neg e] at h; cases h
theorem x_sp_nac {X : x_T} {op : Nat → Bool} {hk : Option Nat} {hu : Nat} (ha : ¬ x_ac X op) : x_sp X op hk hu = none := by
  cases h : x_sp X op hk hu with
  | none => rfl
  | some v => exact absurd (x_ac_sp h) ha
theorem x_ac_not {X : x_T} {op : Nat → Bool} {hk : Option Nat} {hu : Nat} (h : x_sp X op hk hu = none) (hw : x_wf X) : ¬ x_ac X op := fun ha => by rw [x_sp_ac hw ha] at h; cases h
/-- without a hold its time says nothing -/
theorem x_sv_n {X : x_T} {hu hu' r o : Nat} : x_sv X none hu r o = x_sv X none hu' r o := by
  unfold x_sv
  rw [if_neg (fun q => by cases q), if_neg (fun q => by cases q)]
theorem x_TT_n {X : x_T} {op : Nat → Bool} {hu hu' : Nat} {K : Nat → Bool} {r t rk : Nat → Nat} (T : x_TT X op none hu K r t rk) : x_TT X op none hu' K r t rk := fun o ho hK => by
  obtain ⟨a, b, c, d⟩ := T o ho hK
  exact ⟨a, b, c, by rw [d]; exact x_sv_n⟩
/-- what the times are -/
theorem x_ti_eq {X : x_T} {op : Nat → Bool} {hk : Option Nat} {hu : Nat} (hw : x_wf X) (ha : x_ac X op) {o : Nat} (ho : o < X 1) : x_re X op hk hu o = x_rd X op (fun q => x_ti X op hk hu q + X (82 + q)) o ∧ x_ti X op hk hu o = x_sv X hk hu (x_re X op hk hu o) o := by
  obtain ⟨K', rk', T', M', hA, -⟩ := x_tb_ok (hk := hk) (hu := hu) hw ha
  exact (T' o ho (hA o ho)).2.2
theorem x_ti_bd {X : x_T} {op : Nat → Bool} {hk : Option Nat} {hu : Nat} (hw : x_wf X) (ha : x_ac X op) {o : Nat} (ho : o < X 1) : x_re X op hk hu o ≤ 1400 + hu ∧ x_ti X op hk hu o + X (82 + o) ≤ 1400 + hu ∧ x_re X op hk hu o ≤ x_ti X op hk hu o := by
  obtain ⟨K', rk', T', M', hA, hr⟩ := x_tb_ok (hk := hk) (hu := hu) hw ha
  have h := x_TT_bd hw T' (rk' o + 1) o ho (by omega) (hA o ho)
  have h2 := hr o ho
  have h3 := x_sz hw
  omega
