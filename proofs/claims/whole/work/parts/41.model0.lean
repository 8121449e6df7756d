set_option maxRecDepth 20000 in
set_option maxHeartbeats 1000000 in
theorem c_in {G : q_G} {s : s_T} {a b c : Int64} : s_W G mX12_in 2 0 0 (c_I (fun x s1 => s1 = s ∧ x = bI (decide (b ≤ a ∧ a ≤ c)))) 0 (q_ent mX12_in [.long a, .long b, .long c]) [] s := by
  show s_W G mX12_in 2 0 0 _ 0 [some (.long a), none, some (.long b), none, some (.long c), none] [] s
  refine r_lload_n dX12_in_0 rfl rfl ?_
  refine r_lload_n dX12_in_1 rfl rfl ?_
  refine r_lcmp dX12_in_2 ?_
  refine r_if_lt (tgt := 17) dX12_in_3 (by decide) (fun c3 => ?_) (fun c3 => ?_)
  · refine n_const 0 dX12_in_17 (by decide) ?_
    refine s_iret dX12_in_18 rfl rfl ⟨_, rfl, rfl, ?_⟩
    have h := lg_lt0.mp c3
    rw [decide_eq_false (fun q => by have h1 := Int64.lt_iff_toInt_lt.mp h; have h2 := Int64.le_iff_toInt_le.mp q.1; omega)]
    rfl
  · have h0 : b ≤ a := by
      have h1 : ¬ a.toInt < b.toInt := fun q => c3 (lg_lt0.mpr (Int64.lt_iff_toInt_lt.mpr q))
      exact Int64.le_iff_toInt_le.mpr (by omega)
    refine r_lload_n dX12_in_6 rfl rfl ?_
    refine r_lload dX12_in_7 rfl ?_
    refine r_lcmp dX12_in_9 ?_
    refine r_if_gt (tgt := 17) dX12_in_10 (by decide) (fun c10 => ?_) (fun c10 => ?_)
    · refine n_const 0 dX12_in_17 (by decide) ?_
      refine s_iret dX12_in_18 rfl rfl ⟨_, rfl, rfl, ?_⟩
      have h := lg_gt0.mp c10
      rw [decide_eq_false (fun q => by have h1 := Int64.lt_iff_toInt_lt.mp h; have h2 := Int64.le_iff_toInt_le.mp q.2; omega)]
      rfl
    · have h1 : a ≤ c := by
        have h1 : ¬ c.toInt < a.toInt := fun q => c10 (lg_gt0.mpr (Int64.lt_iff_toInt_lt.mpr q))
        exact Int64.le_iff_toInt_le.mpr (by omega)
      refine n_const 1 dX12_in_13 (by decide) ?_
      refine r_goto (tgt := 18) dX12_in_14 (by decide) ?_
      refine s_iret dX12_in_18 rfl rfl ⟨_, rfl, rfl, ?_⟩
      rw [decide_eq_true ⟨h0, h1⟩]
      rfl
set_option maxRecDepth 20000 in
set_option maxHeartbeats 1000000 in
theorem c_ordered {G : q_G} {s : s_T} {X : x_T} {m p : Nat} (hM : m_R X s) (hm : m < 4) (hp : p < 5) : s_W G mX12_ordered 1 0 0 (c_I (fun y9 s1 => s1 = s ∧ y9 = nI (X (183 + 5 * m + p)))) 0 (q_ent mX12_ordered [.ref 212, .int (nI m), .int (nI p)]) [] s := by
  show s_W G mX12_ordered 1 0 0 _ 0 [some (.ref 212), some (.int (nI m)), some (.int (nI p))] [] s
  refine r_aload_n dX12_ordered_0 rfl rfl ?_
  refine s_getR dX12_ordered_1 fX12_9 lysX12 rfl ?_
  refine n_sip 183 dX12_ordered_4 (by decide) ?_
  refine n_const 5 dX12_ordered_7 (by decide) ?_
  refine r_iload_n dX12_ordered_8 rfl rfl ?_
  refine n_mul dX12_ordered_9 ?_
  refine n_add dX12_ordered_10 ?_
  refine r_iload_n dX12_ordered_11 rfl rfl ?_
  refine n_add dX12_ordered_12 ?_
  refine m_ld dX12_ordered_13 hM (by omega) ?_
  refine s_iret dX12_ordered_14 rfl rfl ?_
  exact ⟨_, rfl, rfl, rfl⟩
set_option maxRecDepth 20000 in
set_option maxHeartbeats 1000000 in
theorem c_setOrdered {G : q_G} {s : s_T} {X : x_T} {m p v : Nat} (hM : m_R X s) (hm : m < 4) (hp : p < 5) : s_W G mX12_setOrdered 1 0 0 (c_V (fun s1 => m_R (va_up X (183 + 5 * m + p) v) s1 ∧ s_fr 213 214 s s1)) 0 (q_ent mX12_setOrdered [.ref 212, .int (nI m), .int (nI p), .int (nI v)]) [] s := by
  show s_W G mX12_setOrdered 1 0 0 _ 0 [some (.ref 212), some (.int (nI m)), some (.int (nI p)), some (.int (nI v))] [] s
  have hf : s_fr 213 214 s s := s_fr_rf
  refine r_aload_n dX12_setOrdered_0 rfl rfl ?_
  refine s_getR dX12_setOrdered_1 fX12_9 lysX12 rfl ?_
  refine n_sip 183 dX12_setOrdered_4 (by decide) ?_
  refine n_const 5 dX12_setOrdered_7 (by decide) ?_
  refine r_iload_n dX12_setOrdered_8 rfl rfl ?_
  refine n_mul dX12_setOrdered_9 ?_
  refine n_add dX12_setOrdered_10 ?_
  refine r_iload_n dX12_setOrdered_11 rfl rfl ?_
  refine n_add dX12_setOrdered_12 ?_
  refine r_iload_n dX12_setOrdered_13 rfl rfl ?_
  refine m_st dX12_setOrdered_14 hM (by omega) (fun s hM hf1 => ?_)
  replace hf := s_fr_tr hf hf1
  refine s_vret dX12_setOrdered_15 rfl ?_
  exact ⟨rfl, hM, hf⟩
set_option maxRecDepth 20000 in
set_option maxHeartbeats 1000000 in
theorem c_sequence {G : q_G} {s : s_T} {X : x_T} {j i : Nat} (hM : m_R X s) (hj : j < 5) (hi : i < 4) : s_W G mX12_sequence 1 0 0 (c_I (fun y9 s1 => s1 = s ∧ y9 = nI (X (22 + 4 * j + i)))) 0 (q_ent mX12_sequence [.ref 212, .int (nI j), .int (nI i)]) [] s := by
  show s_W G mX12_sequence 1 0 0 _ 0 [some (.ref 212), some (.int (nI j)), some (.int (nI i))] [] s
  refine r_aload_n dX12_sequence_0 rfl rfl ?_
  refine s_getR dX12_sequence_1 fX12_9 lysX12 rfl ?_
  refine n_bip 22 dX12_sequence_4 (by decide) ?_
  refine n_const 4 dX12_sequence_6 (by decide) ?_
  refine r_iload_n dX12_sequence_7 rfl rfl ?_
  refine n_mul dX12_sequence_8 ?_
  refine n_add dX12_sequence_9 ?_
  refine r_iload_n dX12_sequence_10 rfl rfl ?_
  refine n_add dX12_sequence_11 ?_
  refine m_ld dX12_sequence_12 hM (by omega) ?_
  refine s_iret dX12_sequence_13 rfl rfl ?_
  exact ⟨_, rfl, rfl, rfl⟩
set_option maxRecDepth 20000 in
set_option maxHeartbeats 1000000 in
theorem c_setup {G : q_G} {s : s_T} {X : x_T} {a b : Nat} (hM : m_R X s) (ha : a < 20) (hb : b < 20) (hfa : X (102 + a) < 3) (hfb : X (102 + b) < 3) : s_W G mX12_setup 1 0 0 (c_I (fun y9 s1 => s1 = s ∧ y9 = nI (X (142 + 3 * X (102 + a) + X (102 + b))))) 0 (q_ent mX12_setup [.ref 212, .int (nI a), .int (nI b)]) [] s := by
  show s_W G mX12_setup 1 0 0 _ 0 [some (.ref 212), some (.int (nI a)), some (.int (nI b))] [] s
  refine r_aload_n dX12_setup_0 rfl rfl ?_
  refine s_getR dX12_setup_1 fX12_9 lysX12 rfl ?_
  refine n_sip 142 dX12_setup_4 (by decide) ?_
  refine n_const 3 dX12_setup_7 (by decide) ?_
  refine r_aload_n dX12_setup_8 rfl rfl ?_
  refine s_getR dX12_setup_9 fX12_9 lysX12 rfl ?_
  refine n_bip 102 dX12_setup_12 (by decide) ?_
  refine r_iload_n dX12_setup_14 rfl rfl ?_
  refine n_add dX12_setup_15 ?_
  refine m_ld dX12_setup_16 hM (by omega) ?_
  refine n_mul dX12_setup_17 ?_
  refine n_add dX12_setup_18 ?_
  refine r_aload_n dX12_setup_19 rfl rfl ?_
  refine s_getR dX12_setup_20 fX12_9 lysX12 rfl ?_
  refine n_bip 102 dX12_setup_23 (by decide) ?_
  refine r_iload_n dX12_setup_25 rfl rfl ?_
  refine n_add dX12_setup_26 ?_
  refine m_ld dX12_setup_27 hM (by omega) ?_
  refine n_add dX12_setup_28 ?_
  refine m_ld dX12_setup_29 hM (by omega) ?_
  refine s_iret dX12_setup_30 rfl rfl ?_
  exact ⟨_, rfl, rfl, rfl⟩
/-- a job more -/
def x_addJob (X : x_T) (r u w : Nat) : x_T := (va_up (va_up (va_up (va_up (va_up X (2 + X 0) (r)) (7 + X 0) (u)) (12 + X 0) (w)) (17 + X 0) (0)) (0) (X 0 + 1))
set_option maxRecDepth 20000 in
set_option maxHeartbeats 1000000 in
theorem c_createJob {G : q_G} {s : s_T} {X : x_T} {r u w : Nat} (hM : m_R X s) (hJ : X 0 < 5) : s_W G mX12_createJob 1 0 0 (c_I (fun x s1 => x = nI (X 0) ∧ m_R (x_addJob X r u w) s1 ∧ s_fr 213 214 s s1)) 0 (q_ent mX12_createJob [.ref 212, .int (nI r), .int (nI u), .int (nI w)]) [] s := by
  show s_W G mX12_createJob 1 0 0 _ 0 [some (.ref 212), some (.int (nI r)), some (.int (nI u)), some (.int (nI w)), none] [] s
  have hf : s_fr 213 214 s s := s_fr_rf
  refine r_aload_n dX12_createJob_0 rfl rfl ?_
  refine s_getR dX12_createJob_1 fX12_9 lysX12 rfl ?_
  refine n_const 0 dX12_createJob_4 (by decide) ?_
  refine m_ld dX12_createJob_5 hM (by first | omega | (simp only [va_up]; omega)) ?_
  refine r_istore dX12_createJob_6 (by decide) rfl ?_
  refine r_aload_n dX12_createJob_8 rfl rfl ?_
  refine s_getR dX12_createJob_9 fX12_9 lysX12 rfl ?_
  refine n_const 2 dX12_createJob_12 (by decide) ?_
  refine r_iload dX12_createJob_13 rfl ?_
  refine n_add dX12_createJob_15 ?_
  refine r_iload_n dX12_createJob_16 rfl rfl ?_
  refine m_st dX12_createJob_17 hM (by first | omega | (simp only [va_up]; omega)) (fun s hM hf1 => ?_)
  replace hf := s_fr_tr hf hf1
  refine r_aload_n dX12_createJob_18 rfl rfl ?_
  refine s_getR dX12_createJob_19 fX12_9 lysX12 rfl ?_
  refine n_bip 7 dX12_createJob_22 (by decide) ?_
  refine r_iload dX12_createJob_24 rfl ?_
  refine n_add dX12_createJob_26 ?_
  refine r_iload_n dX12_createJob_27 rfl rfl ?_
  refine m_st dX12_createJob_28 hM (by first | omega | (simp only [va_up]; omega)) (fun s hM hf1 => ?_)
  replace hf := s_fr_tr hf hf1
  refine r_aload_n dX12_createJob_29 rfl rfl ?_
  refine s_getR dX12_createJob_30 fX12_9 lysX12 rfl ?_
  refine n_bip 12 dX12_createJob_33 (by decide) ?_
  refine r_iload dX12_createJob_35 rfl ?_
  refine n_add dX12_createJob_37 ?_
  refine r_iload_n dX12_createJob_38 rfl rfl ?_
  refine m_st dX12_createJob_39 hM (by first | omega | (simp only [va_up]; omega)) (fun s hM hf1 => ?_)
  replace hf := s_fr_tr hf hf1
  refine r_aload_n dX12_createJob_40 rfl rfl ?_
  refine s_getR dX12_createJob_41 fX12_9 lysX12 rfl ?_
  refine n_bip 17 dX12_createJob_44 (by decide) ?_
  refine r_iload dX12_createJob_46 rfl ?_
  refine n_add dX12_createJob_48 ?_
  refine n_const 0 dX12_createJob_49 (by decide) ?_
  refine m_st dX12_createJob_50 hM (by first | omega | (simp only [va_up]; omega)) (fun s hM hf1 => ?_)
  replace hf := s_fr_tr hf hf1
  refine r_aload_n dX12_createJob_51 rfl rfl ?_
  refine s_getR dX12_createJob_52 fX12_9 lysX12 rfl ?_
  refine n_const 0 dX12_createJob_55 (by decide) ?_
  refine r_dup2 dX12_createJob_56 rfl rfl ?_
  refine m_ld dX12_createJob_57 hM (by first | omega | (simp only [va_up]; omega)) ?_
  refine n_const 1 dX12_createJob_58 (by decide) ?_
  refine n_add dX12_createJob_59 ?_
  refine m_st dX12_createJob_60 hM (by first | omega | (simp only [va_up]; omega)) (fun s hM hf1 => ?_)
  replace hf := s_fr_tr hf hf1
  refine r_iload dX12_createJob_61 rfl ?_
  refine s_iret dX12_createJob_63 rfl rfl ?_
  refine ⟨_, rfl, rfl, ?_, hf⟩
  rw [va_up_n (k := 17 + X 0) (by omega), va_up_n (k := 12 + X 0) (by omega), va_up_n (k := 7 + X 0) (by omega), va_up_n (k := 2 + X 0) (by omega)] at hM
  exact hM
set_option maxRecDepth 20000 in
set_option maxHeartbeats 1000000 in
theorem c_mPositionOf {G : q_G} {s : s_T} {X : x_T} {k p0 : Nat} (hM : m_R X s) (hw : x_wf X) (hk : k < X 1) (hp0 : p0 < X (179 + X (62 + k))) (he : X (183 + 5 * X (62 + k) + p0) = k) : s_W G mX12_positionOf 2 0 0 (c_I (fun y9 s1 => s1 = s ∧ y9 = nI p0)) 0 (q_ent mX12_positionOf [.ref 212, .int (nI k)]) [] s := by
  show s_W G mX12_positionOf 2 0 0 _ 0 [some (.ref 212), some (.int (nI k)), none, none] [] s
  have hk2 := x_op hw hk
  have hn := x_mn hw hk2.2.2.2.2.2.2.1
  have loop : ∀ f p, p ≤ p0 → p0 < p + f → s_W G mX12_positionOf 2 0 0 (c_I (fun x s1 => s1 = s ∧ x = nI p0)) 12 [some (.ref 212), some (.int (nI k)), some (.int (nI (X (62 + k)))), some (.int (nI p))] [] s := by
    intro f
    induction f with
    | zero => intro p h1 h2; exact absurd h2 (by omega)
    | succ f ih =>
      intro p h1 h2
      have hod := x_od hw hk2.2.2.2.2.2.2.1 (p := p) (by omega)
      refine r_aload_n dX12_positionOf_12 rfl rfl ?_
      refine r_iload_n dX12_positionOf_13 rfl rfl ?_
      refine r_iload_n dX12_positionOf_14 rfl rfl ?_
      refine s_V2I mX12_ordered dX12_positionOf_15 okX12_ordered lX12_142 npX12_ordered lysX12 rfl (by decide) (by decide) (by decide) (Nat.le_of_ble_eq_true rfl) (Nat.le_of_ble_eq_true rfl) (c_ordered hM (by omega) (by omega)) (fun x s1 hq => ?_)
      obtain ⟨rfl, rfl⟩ := hq
      refine r_iload_n dX12_positionOf_18 rfl rfl ?_
      refine n_ceq (tgt := 28) dX12_positionOf_19 (by decide) (by omega) (by omega) (fun c19 => ?_) (fun c19 => ?_)
      · refine r_iload_n dX12_positionOf_28 rfl rfl ?_
        refine s_iret dX12_positionOf_29 rfl rfl ?_
        have e1 : p = p0 := x_od1 hw hk2.2.2.2.2.2.2.1 (by omega) hp0 (by omega)
        subst e1
        exact ⟨_, rfl, rfl, rfl⟩
      · have hne : p ≠ p0 := fun r => c19 (by rw [r]; exact he)
        refine n_inc dX12_positionOf_22 rfl (n_i1 _) (by decide) rfl ?_
        refine r_goto (tgt := 12) dX12_positionOf_25 (by decide) ?_
        exact ih (p + 1) (by omega) (by omega)
  refine r_aload_n dX12_positionOf_0 rfl rfl ?_
  refine s_getR dX12_positionOf_1 fX12_9 lysX12 rfl ?_
  refine n_bip 62 dX12_positionOf_4 (by decide) ?_
  refine r_iload_n dX12_positionOf_6 rfl rfl ?_
  refine n_add dX12_positionOf_7 ?_
  refine m_ld dX12_positionOf_8 hM (by omega) ?_
  refine r_istore_n dX12_positionOf_9 rfl (by decide) rfl ?_
  refine n_const 0 dX12_positionOf_10 (by decide) ?_
  refine r_istore_n dX12_positionOf_11 rfl (by decide) rfl ?_
  exact loop (p0 + 1) 0 (by omega) (by omega)
