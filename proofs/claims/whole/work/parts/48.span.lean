/-! ===== the makespan ===== -/
def x_mxe (e : Nat → Nat) : Nat → Nat
  | 0 => 0
  | n + 1 => max (x_mxe e n) (e n)
theorem x_mxe_ge {e : Nat → Nat} : ∀ n k, k < n → e k ≤ x_mxe e n
  | 0, k, h => absurd h (by omega)
  | n + 1, k, h => by
    unfold x_mxe
    by_cases q : k = n
    · subst q; omega
    · have := x_mxe_ge (e := e) n k (by omega); omega
theorem x_mxe_le {e : Nat → Nat} {B : Nat} : ∀ n, (∀ k, k < n → e k ≤ B) → x_mxe e n ≤ B
  | 0, _ => Nat.zero_le _
  | n + 1, h => by
    unfold x_mxe
    have h1 := x_mxe_le (e := e) n (fun k hk => h k (by omega))
    have h2 := h n (by omega)
    omega
theorem x_mxe_congr {e e' : Nat → Nat} : ∀ n, (∀ k, k < n → e k = e' k) → x_mxe e n = x_mxe e' n
  | 0, _ => rfl
  | n + 1, h => by unfold x_mxe; rw [x_mxe_congr n (fun k hk => h k (by omega)), h n (by omega)]
theorem x_mxe_mono {e e' : Nat → Nat} : ∀ n, (∀ k, k < n → e k ≤ e' k) → x_mxe e n ≤ x_mxe e' n
  | 0, _ => Nat.le_refl _
  | n + 1, h => by
    unfold x_mxe
    have h1 := x_mxe_mono (e := e) (e' := e') n (fun k hk => h k (by omega))
    have h2 := h n (by omega)
    omega
def x_span (X : x_T) (op : Nat → Bool) (hk : Option Nat) (hu v : Nat) : Prop := ∃ (K : Nat → Bool) (r t rk : Nat → Nat), x_TT X op hk hu K r t rk ∧ x_mx X op K ∧ (∀ k, k < X 1 → K k = true) ∧ v = x_mxe (fun k => t k + X (82 + k)) (X 1)
noncomputable def x_sp (X : x_T) (op : Nat → Bool) (hk : Option Nat) (hu : Nat) : Option Nat := @dite (Option Nat) (∃ v, x_span X op hk hu v) (Classical.propDecidable _) (fun h => some (Classical.choose h)) (fun _ => none)
theorem x_sp_all {X : x_T} {op : Nat → Bool} {hk : Option Nat} {hu : Nat} {K : Nat → Bool} {r t rk : Nat → Nat} (hw : x_wf X) (T : x_TT X op hk hu K r t rk) (M : x_mx X op K) (hA : ∀ k, k < X 1 → K k = true) : x_sp X op hk hu = some (x_mxe (fun k => t k + X (82 + k)) (X 1)) := by
  have h : ∃ v, x_span X op hk hu v := ⟨_, K, r, t, rk, T, M, hA, rfl⟩
  unfold x_sp
  rw [dif_pos h]
  obtain ⟨K', r', t', rk', T', M', hA', e⟩ := Classical.choose_spec h
  rw [e]
  refine congrArg some (x_mxe_congr _ (fun k hk => ?_))
  have := ((x_TT_one hw T M T' M' k hk).2 (hA k hk)).2
  omega
theorem x_sp_not {X : x_T} {op : Nat → Bool} {hk : Option Nat} {hu : Nat} {K : Nat → Bool} {r t rk : Nat → Nat} {k : Nat} (hw : x_wf X) (T : x_TT X op hk hu K r t rk) (M : x_mx X op K) (hk1 : k < X 1) (hK : K k = false) : x_sp X op hk hu = none := by
  unfold x_sp
  rw [dif_neg]
  intro h
  obtain ⟨v, K', r', t', rk', T', M', hA', e⟩ := h
  have h1 := (x_TT_one hw T M T' M' k hk1).1
  rw [hK, hA' k hk1] at h1
  cases h1
theorem x_ct_lt {K : Nat → Bool} {n : Nat} (h : x_ct K n < n) : ∃ k, k < n ∧ K k = false := by
  induction n with
  | zero => omega
  | succ n ih =>
    unfold x_ct at h
    cases hK : K n with
    | false => exact ⟨n, by omega, hK⟩
    | true =>
      rw [hK] at h
      obtain ⟨k, h1, h2⟩ := ih (by simp at h; omega)
      exact ⟨k, by omega, h2⟩
set_option maxRecDepth 20000 in
set_option maxHeartbeats 1000000 in
theorem c_greatestEnd {G : q_G} {s : s_T} {X : x_T} {K : Nat → Bool} {r t : Nat → Nat} (hM : m_R X s) (hw : x_wf X) (hT : m_T X K r t s) (hA : ∀ k, k < X 1 → K k = true) (hb : ∀ k, k < X 1 → t k ≤ 100000) : s_W G mX12_greatestEnd 2 0 0 (c_I (fun y9 s1 => s1 = s ∧ y9 = nI (x_mxe (fun k => t k + X (82 + k)) (X 1)))) 0 (q_ent mX12_greatestEnd [.ref 212]) [] s := by
  show s_W G mX12_greatestEnd 2 0 0 _ 0 [some (.ref 212), none, none] [] s
  have hz := x_sz hw
  have loop : ∀ f i g, i ≤ X 1 → X 1 < i + f → g ≤ 100030 → g = x_mxe (fun k => t k + X (82 + k)) i → s_W G mX12_greatestEnd 2 0 0 (c_I (fun y9 s1 => s1 = s ∧ y9 = nI (x_mxe (fun k => t k + X (82 + k)) (X 1)))) 4 [some (.ref 212), some (.int (nI g)), some (.int (nI i))] [] s := by
    intro f
    induction f with
    | zero => intro i g h1 h2; exact absurd h2 (by omega)
    | succ f ih =>
      intro i g h1 h2 hgb hg
      refine r_iload_n dX12_greatestEnd_4 rfl rfl ?_
      refine r_aload_n dX12_greatestEnd_5 rfl rfl ?_
      refine s_getR dX12_greatestEnd_6 fX12_9 lysX12 rfl ?_
      refine n_const 1 dX12_greatestEnd_9 (by decide) ?_
      refine m_ld dX12_greatestEnd_10 hM (by omega) ?_
      refine n_cge (tgt := 30) dX12_greatestEnd_11 (by decide) (by omega) (by omega) (fun c11 => ?_) (fun c11 => ?_)
      · refine r_iload_n dX12_greatestEnd_30 rfl rfl ?_
        refine s_iret dX12_greatestEnd_31 rfl rfl ?_
        have e9 : i = X 1 := by omega
        subst e9
        exact ⟨_, rfl, rfl, by rw [hg]⟩
      · have hbi := hb i c11
        have hei := x_op hw c11
        refine r_iload_n dX12_greatestEnd_14 rfl rfl ?_
        refine r_aload_n dX12_greatestEnd_15 rfl rfl ?_
        refine r_iload_n dX12_greatestEnd_16 rfl rfl ?_
        refine s_V1I mX12_endOf dX12_greatestEnd_17 okX12_endOf lX12_164 npX12_endOf lysX12 rfl (by decide) (by decide) (by decide) (Nat.le_of_ble_eq_true rfl) (Nat.le_of_ble_eq_true rfl) (c_endOf (v := t i) hM (by omega) ((hT i c11).1 (hA i c11)).1) (fun x s1 hq => ?_)
        obtain ⟨rfl, rfl⟩ := hq
        refine r_mmax dX12_greatestEnd_20 kwM_X12_max kwM_static_max kwM_ini kwM_code_max (by decide) (Nat.le_of_ble_eq_true rfl) ?_
        rw [nI_max (by omega) (by omega)]
        refine r_istore_n dX12_greatestEnd_23 rfl (by decide) rfl ?_
        refine n_inc dX12_greatestEnd_24 rfl (n_i1 _) (by decide) rfl ?_
        refine r_goto (tgt := 4) dX12_greatestEnd_27 (by decide) ?_
        refine ih (i + 1) _ (by omega) (by omega) (by omega) ?_
        rw [hg]
        rfl
  refine n_const 0 dX12_greatestEnd_0 (by decide) ?_
  refine r_istore_n dX12_greatestEnd_1 rfl (by decide) rfl ?_
  refine n_const 0 dX12_greatestEnd_2 (by decide) ?_
  refine r_istore_n dX12_greatestEnd_3 rfl (by decide) rfl ?_
  exact loop (X 1 + 1) 0 0 (by omega) (by omega) (by omega) rfl
set_option maxRecDepth 20000 in
set_option maxHeartbeats 1000000 in
theorem c_makespanNow {G : q_G} {s : s_T} {X : x_T} {op : Nat → Bool} {hk : Option Nat} {hu : Nat} (hM : m_R X s) (hop : m_op op s) (hH : m_H hk hu s) (hw : x_wf X) (hu2 : hu ≤ 50000) (hh2 : ∀ q, hk = some q → q < 20) : s_W G mX12_makespanNow 6 0 0 (c_I (fun y9 s1 => ∃ (K : Nat → Bool) (r t rk : Nat → Nat), y9 = oI (x_sp X op hk hu) ∧ x_mx X op K ∧ m_T X K r t s1 ∧ x_TT X op hk hu K r t rk ∧ (∀ k, k < X 1 → K k = true → rk k < x_ct K (X 1)) ∧ s_fr 218 220 s s1)) 0 (q_ent mX12_makespanNow [.ref 212]) [] s := by
  show s_W G mX12_makespanNow 6 0 0 _ 0 [some (.ref 212)] [] s
  have hz := x_sz hw
  refine r_aload_n dX12_makespanNow_0 rfl rfl ?_
  refine s_V0I mX12_findTimes dX12_makespanNow_1 okX12_findTimes lX12_181 npX12_findTimes lysX12 rfl (by decide) (by decide) (by decide) (Nat.le_of_ble_eq_true rfl) (Nat.le_of_ble_eq_true rfl) (c_findTimes hM hop hH hw hu2 hh2) (fun x s1 hq => ?_)
  obtain ⟨K, r, t, rk, rfl, i0, i1, i2, i3, i4⟩ := hq
  have hcl := x_ct_le (K := K) (X 1)
  refine n_ifle (tgt := 11) dX12_makespanNow_4 (by decide) (by omega) (fun c4 => ?_) (fun c4 => ?_)
  · have hA : ∀ k, k < X 1 → K k = true := x_ct_all (X 1) (by omega)
    have hb : ∀ q, q < X 1 → t q ≤ 100000 := fun q hq => by
      have q1 := x_TT_bd hw i2 (rk q + 1) q hq (by omega) (hA q hq)
      have q2 := i3 q hq (hA q hq)
      omega
    refine r_aload_n dX12_makespanNow_11 rfl rfl ?_
    refine s_V0I mX12_greatestEnd dX12_makespanNow_12 okX12_greatestEnd lX12_185 npX12_greatestEnd lysX12 rfl (by decide) (by decide) (by decide) (Nat.le_of_ble_eq_true rfl) (Nat.le_of_ble_eq_true rfl) (c_greatestEnd (m_R_fr hM i4 (by decide)) hw i1 hA hb) (fun x s1 hq => ?_)
    obtain ⟨rfl, rfl⟩ := hq
    refine s_iret dX12_makespanNow_15 rfl rfl ?_
    first
      | exact ⟨_, rfl, K, r, t, rk, by rw [x_sp_all hw i2 i0 hA]; rfl, i0, i1, i2, i3, i4⟩
      | (obtain ⟨k, h1, h2⟩ := x_ct_lt (K := K) (n := X 1) (by omega)
         exact ⟨_, rfl, K, r, t, rk, by rw [x_sp_not hw i2 i0 h1 h2]; rfl, i0, i1, i2, i3, i4⟩)
  · refine r_iconst (v := -1) dX12_makespanNow_7 (by decide) ?_
    refine r_goto (tgt := 15) dX12_makespanNow_8 (by decide) ?_
    refine s_iret dX12_makespanNow_15 rfl rfl ?_
    first
      | exact ⟨_, rfl, K, r, t, rk, by rw [x_sp_all hw i2 i0 hA]; rfl, i0, i1, i2, i3, i4⟩
      | (obtain ⟨k, h1, h2⟩ := x_ct_lt (K := K) (n := X 1) (by omega)
         exact ⟨_, rfl, K, r, t, rk, by rw [x_sp_not hw i2 i0 h1 h2]; rfl, i0, i1, i2, i3, i4⟩)
