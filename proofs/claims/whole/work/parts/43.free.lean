/-! ===== pure: the least start that keeps clear of the breakdowns ===== -/
abbrev x_pa (X : x_T) (m d t : Nat) : Nat := x_ps X m d (X (151 + m)) 0 t
theorem x_bs_ge {X : x_T} {m d i t : Nat} : t ≤ x_bs X m d i t := by
  unfold x_bs
  split <;> omega
theorem x_bs_mono {X : x_T} {m d i t t' : Nat} (h : t ≤ t') : x_bs X m d i t ≤ x_bs X m d i t' := by
  unfold x_bs
  split <;> split <;> omega
theorem x_ps_ge {X : x_T} {m d : Nat} : ∀ n i t : Nat, t ≤ x_ps X m d n i t
  | 0, i, t => Nat.le_refl _
  | n + 1, i, t => Nat.le_trans x_bs_ge (x_ps_ge n (i + 1) _)
theorem x_ps_mono {X : x_T} {m d : Nat} : ∀ n i t t' : Nat, t ≤ t' → x_ps X m d n i t ≤ x_ps X m d n i t'
  | 0, i, t, t', h => h
  | n + 1, i, t, t', h => x_ps_mono n (i + 1) _ _ (x_bs_mono h)
theorem x_rn_ge {X : x_T} {m d b : Nat} : ∀ n t : Nat, t ≤ x_rn X m d b n t
  | 0, t => Nat.le_refl _
  | n + 1, t => Nat.le_trans (x_ps_ge b 0 t) (x_rn_ge n _)
theorem x_rn_mono {X : x_T} {m d b : Nat} : ∀ n t t' : Nat, t ≤ t' → x_rn X m d b n t ≤ x_rn X m d b n t'
  | 0, t, t', h => h
  | n + 1, t, t', h => x_rn_mono n _ _ (x_ps_mono b 0 t t' h)
theorem x_fr_ge {X : x_T} {m d t : Nat} : t ≤ x_fr X m d t := x_rn_ge _ _
theorem x_fr_mono {X : x_T} {m d t t' : Nat} (h : t ≤ t') : x_fr X m d t ≤ x_fr X m d t' := x_rn_mono _ _ _ h
/-- how many breakdowns end behind a time -/
def x_cn (X : x_T) (m : Nat) : Nat → Nat → Nat → Nat
  | 0, _, _ => 0
  | n + 1, i, t => (if t < X (155 + 3 * m + i) + X (167 + 3 * m + i) then 1 else 0) + x_cn X m n (i + 1) t
theorem x_cn_le {X : x_T} {m : Nat} : ∀ n i t : Nat, x_cn X m n i t ≤ n
  | 0, i, t => Nat.le_refl _
  | n + 1, i, t => by
    have h := x_cn_le (X := X) (m := m) n (i + 1) t
    unfold x_cn
    split <;> omega
theorem x_cn_anti {X : x_T} {m : Nat} : ∀ n i t t' : Nat, t ≤ t' → x_cn X m n i t' ≤ x_cn X m n i t
  | 0, i, t, t', h => Nat.le_refl _
  | n + 1, i, t, t', h => by
    have h1 := x_cn_anti (X := X) (m := m) n (i + 1) t t' h
    unfold x_cn
    split <;> split <;> omega
/-- a pass that moves the time leaves one breakdown more behind it -/
theorem x_ps_cn {X : x_T} {m d : Nat} : ∀ n i t : Nat, x_ps X m d n i t ≠ t → x_cn X m n i (x_ps X m d n i t) < x_cn X m n i t
  | 0, i, t, h => absurd rfl h
  | n + 1, i, t, h => by
    have hge := x_ps_ge (X := X) (m := m) (d := d) n (i + 1) (x_bs X m d i t)
    show x_cn X m (n + 1) i (x_ps X m d n (i + 1) (x_bs X m d i t)) < _
    have hne : x_ps X m d n (i + 1) (x_bs X m d i t) ≠ t := h
    by_cases hb : x_bs X m d i t = t
    · rw [hb] at hne hge ⊢
      have ih := x_ps_cn n (i + 1) t hne
      unfold x_cn
      split <;> split <;> omega
    · have hbv : x_bs X m d i t = X (155 + 3 * m + i) + X (167 + 3 * m + i) ∧ t < X (155 + 3 * m + i) + X (167 + 3 * m + i) := by
        unfold x_bs at hb ⊢
        split
        · rename_i hc; exact ⟨rfl, hc.2⟩
        · rename_i hc; rw [if_neg hc] at hb; exact absurd rfl hb
      have ha := x_cn_anti (X := X) (m := m) n (i + 1) t (x_ps X m d n (i + 1) (x_bs X m d i t)) (by omega)
      unfold x_cn
      rw [if_neg (by omega), if_pos hbv.2]
      omega
theorem x_rn_fix {X : x_T} {m d b : Nat} : ∀ n t : Nat, x_ps X m d b 0 t = t → x_rn X m d b n t = t
  | 0, t, h => rfl
  | n + 1, t, h => by
    show x_rn X m d b n (x_ps X m d b 0 t) = t
    rw [h]
    exact x_rn_fix n t h
theorem x_rn_end {X : x_T} {m d b : Nat} : ∀ n t : Nat, x_cn X m b 0 t ≤ n → x_ps X m d b 0 (x_rn X m d b n t) = x_rn X m d b n t
  | 0, t, h => by
    by_cases hf : x_ps X m d b 0 t = t
    · exact hf
    · have := x_ps_cn b 0 t hf
      omega
  | n + 1, t, h => by
    show x_ps X m d b 0 (x_rn X m d b n (x_ps X m d b 0 t)) = x_rn X m d b n (x_ps X m d b 0 t)
    by_cases hf : x_ps X m d b 0 t = t
    · rw [hf, x_rn_fix n t hf]
      exact hf
    · have := x_ps_cn b 0 t hf
      exact x_rn_end n _ (by omega)
theorem x_rn_comm {X : x_T} {m d b : Nat} : ∀ n t : Nat, x_rn X m d b n (x_ps X m d b 0 t) = x_ps X m d b 0 (x_rn X m d b n t)
  | 0, t => rfl
  | n + 1, t => x_rn_comm n _
theorem x_fr_end {X : x_T} {m d t : Nat} : x_pa X m d (x_fr X m d t) = x_fr X m d t := x_rn_end _ _ (x_cn_le _ _ _)
theorem x_fr_pa {X : x_T} {m d t : Nat} : x_fr X m d (x_pa X m d t) = x_fr X m d t := (x_rn_comm _ _).trans x_fr_end
theorem x_fr_fix {X : x_T} {m d t : Nat} (h : x_pa X m d t = t) : x_fr X m d t = t := x_rn_fix _ _ h
theorem x_fr_fr {X : x_T} {m d t : Nat} : x_fr X m d (x_fr X m d t) = x_fr X m d t := x_fr_fix x_fr_end
theorem x_bs_le {X : x_T} {m d i t B : Nat} (h1 : X (155 + 3 * m + i) + X (167 + 3 * m + i) ≤ B) (h2 : t ≤ B) : x_bs X m d i t ≤ B := by
  unfold x_bs
  split <;> omega
theorem x_ps_le {X : x_T} {m d B : Nat} : ∀ n i t : Nat, (∀ j, i ≤ j → j < i + n → X (155 + 3 * m + j) + X (167 + 3 * m + j) ≤ B) → t ≤ B → x_ps X m d n i t ≤ B
  | 0, i, t, h, ht => ht
  | n + 1, i, t, h, ht => x_ps_le n (i + 1) _ (fun j h1 h2 => h j (by omega) (by omega)) (x_bs_le (h i (Nat.le_refl _) (by omega)) ht)
theorem x_rn_le {X : x_T} {m d b B : Nat} (h : ∀ j, j < b → X (155 + 3 * m + j) + X (167 + 3 * m + j) ≤ B) : ∀ n t : Nat, t ≤ B → x_rn X m d b n t ≤ B
  | 0, t, ht => ht
  | n + 1, t, ht => x_rn_le h n _ (x_ps_le b 0 t (fun j _ h2 => h j (by omega)) ht)
theorem x_fr_le {X : x_T} (hw : x_wf X) {m d t B : Nat} (hm : m < 4) (hB : 460 ≤ B) (ht : t ≤ B) : x_fr X m d t ≤ B := x_rn_le (fun j hj => by have := x_br hw hm hj; omega) _ _ ht
