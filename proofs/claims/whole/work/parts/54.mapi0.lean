/-! ===== the reference's first calls ===== -/
theorem q_lim_n {k : Nat} (h : k < 3) : q_lim k = nI (if k = 0 then 99 else if k = 1 then 200 else 9) := by
  match k, h with
  | 0, _ => rfl
  | 1, _ => rfl
  | 2, _ => rfl
theorem nrw_b (b : Bool) : narrow FieldType.boolean (.int (bI b)) = .int (bI b) := by cases b <;> rfl
def x_jl (k : Nat) : Nat := if k = 0 then 99 else if k = 1 then 200 else 9
section LR1
variable {G : q_G} {M : q_M} {d C S : Nat} {P : q_R → s_T → Prop} {pc : Nat} {L : List (Option Value)} {st : List Value} {s : s_T}
theorem l_ld {e : Nat} (dc : decode M.2.2.1 pc = .ok (.iaload, 1)) (he : e < 3) (K : s_W G M d C S P (pc + 1) L (.int (nI (x_jl e)) :: st) s) : s_W G M d C S P pc L (.int (nI e) :: .ref 1000001 :: st) s := by
  refine r_lld dc (n_bd he (by decide)) ?_
  rw [nI_clamp (by omega), q_lim_n he]
  exact K
end LR1
set_option maxRecDepth 20000 in
set_option maxHeartbeats 1000000 in
theorem c_mIsJob {G : q_G} {s : s_T} {X : x_T} {x : Int32} (hM : m_R X s) (hw : x_wf X) : s_W G mX12_isJob 3 0 0 (c_I (fun y9 s1 => s1 = s ∧ y9 = bI (iLt x (X 0)))) 0 (q_ent mX12_isJob [.ref 212, .int x]) [] s := by
  show s_W G mX12_isJob 3 0 0 _ 0 [some (.ref 212), some (.int x)] [] s
  have hz := x_sz hw
  refine r_iload_n dX12_isJob_0 rfl rfl ?_
  refine r_i2l dX12_isJob_1 rfl ?_
  refine r_lconst (v := (nI 0).toInt64) dX12_isJob_2 (by decide) ?_
  refine r_aload_n dX12_isJob_3 rfl rfl ?_
  refine s_getR dX12_isJob_4 fX12_9 lysX12 rfl ?_
  refine n_const 0 dX12_isJob_7 (by decide) ?_
  refine m_ld dX12_isJob_8 hM (by omega) ?_
  refine n_const 1 dX12_isJob_9 (by decide) ?_
  refine r_isub dX12_isJob_10 ?_
  refine r_i2l dX12_isJob_11 rfl ?_
  refine s_S3I mX12_in dX12_isJob_12 okX12_in lX12_82 npX12_in (by decide) (by decide) (by decide) (Nat.le_of_ble_eq_true rfl) (Nat.le_of_ble_eq_true rfl) (c_in3 (by omega)) (fun x s1 hq => ?_)
  obtain ⟨rfl, rfl⟩ := hq
  refine s_iret dX12_isJob_15 rfl (nrw_b _) ?_
  exact ⟨_, rfl, rfl, rfl⟩
set_option maxRecDepth 20000 in
set_option maxHeartbeats 1000000 in
theorem c_mIsOperation {G : q_G} {s : s_T} {X : x_T} {x : Int32} (hM : m_R X s) (hw : x_wf X) : s_W G mX12_isOperation 3 0 0 (c_I (fun y9 s1 => s1 = s ∧ y9 = bI (iLt x (X 1)))) 0 (q_ent mX12_isOperation [.ref 212, .int x]) [] s := by
  show s_W G mX12_isOperation 3 0 0 _ 0 [some (.ref 212), some (.int x)] [] s
  have hz := x_sz hw
  refine r_iload_n dX12_isOperation_0 rfl rfl ?_
  refine r_i2l dX12_isOperation_1 rfl ?_
  refine r_lconst (v := (nI 0).toInt64) dX12_isOperation_2 (by decide) ?_
  refine r_aload_n dX12_isOperation_3 rfl rfl ?_
  refine s_getR dX12_isOperation_4 fX12_9 lysX12 rfl ?_
  refine n_const 1 dX12_isOperation_7 (by decide) ?_
  refine m_ld dX12_isOperation_8 hM (by omega) ?_
  refine n_const 1 dX12_isOperation_9 (by decide) ?_
  refine r_isub dX12_isOperation_10 ?_
  refine r_i2l dX12_isOperation_11 rfl ?_
  refine s_S3I mX12_in dX12_isOperation_12 okX12_in lX12_82 npX12_in (by decide) (by decide) (by decide) (Nat.le_of_ble_eq_true rfl) (Nat.le_of_ble_eq_true rfl) (c_in3 (by omega)) (fun x s1 hq => ?_)
  obtain ⟨rfl, rfl⟩ := hq
  refine s_iret dX12_isOperation_15 rfl (nrw_b _) ?_
  exact ⟨_, rfl, rfl, rfl⟩
set_option maxRecDepth 20000 in
set_option maxHeartbeats 1000000 in
theorem c_mIsMachine {G : q_G} {s : s_T} {x : Int32} : s_W G mX12_isMachine 3 0 0 (c_I (fun y9 s1 => s1 = s ∧ y9 = bI (iLt x 4))) 0 (q_ent mX12_isMachine [.int x]) [] s := by
  show s_W G mX12_isMachine 3 0 0 _ 0 [some (.int x)] [] s
  refine r_iload_n dX12_isMachine_0 rfl rfl ?_
  refine r_i2l dX12_isMachine_1 rfl ?_
  refine r_lconst (v := (nI 0).toInt64) dX12_isMachine_2 (by decide) ?_
  refine r_ldc2 dX12_isMachine_3 kL_86 ?_
  refine s_S3I mX12_in dX12_isMachine_6 okX12_in lX12_82 npX12_in (by decide) (by decide) (by decide) (Nat.le_of_ble_eq_true rfl) (Nat.le_of_ble_eq_true rfl) (c_in2 (by decide) (by decide)) (fun x s1 hq => ?_)
  obtain ⟨rfl, rfl⟩ := hq
  refine s_iret dX12_isMachine_9 rfl (nrw_b _) ?_
  exact ⟨_, rfl, rfl, by rw [iIn_iLt]⟩
set_option maxRecDepth 20000 in
set_option maxHeartbeats 1000000 in
theorem c_mIsJobProperty {G : q_G} {s : s_T} {k : Nat} {v : Int32} (hk : k < 3) : s_W G mX12_isJobProperty 3 0 0 (c_I (fun y9 s1 => s1 = s ∧ y9 = bI (iIn v 0 (x_jl k)))) 0 (q_ent mX12_isJobProperty [.int (nI k), .int v]) [] s := by
  show s_W G mX12_isJobProperty 3 0 0 _ 0 [some (.int (nI k)), some (.int v)] [] s
  refine r_iload_n dX12_isJobProperty_0 rfl rfl ?_
  refine n_ifne (tgt := 16) dX12_isJobProperty_1 (by decide) (by omega) (fun c1 => ?_) (fun c1 => ?_)
  · refine r_iload_n dX12_isJobProperty_16 rfl rfl ?_
    refine n_const 1 dX12_isJobProperty_17 (by decide) ?_
    refine n_cne (tgt := 33) dX12_isJobProperty_18 (by decide) (by omega) (by omega) (fun c18 => ?_) (fun c18 => ?_)
    · refine r_iload_n dX12_isJobProperty_33 rfl rfl ?_
      refine r_i2l dX12_isJobProperty_34 rfl ?_
      refine r_lconst (v := (nI 0).toInt64) dX12_isJobProperty_35 (by decide) ?_
      refine r_ldc2 dX12_isJobProperty_36 kL_92 ?_
      refine s_S3I mX12_in dX12_isJobProperty_39 okX12_in lX12_82 npX12_in (by decide) (by decide) (by decide) (Nat.le_of_ble_eq_true rfl) (Nat.le_of_ble_eq_true rfl) (c_in2 (by decide) (by decide)) (fun x s1 hq => ?_)
      obtain ⟨rfl, rfl⟩ := hq
      refine s_iret dX12_isJobProperty_42 rfl (nrw_b _) ?_
      refine ⟨_, rfl, rfl, ?_⟩
      have e : x_jl k = 99 ∧ k = 0 ∨ x_jl k = 200 ∧ k = 1 ∨ x_jl k = 9 ∧ k = 2 := by
        match k, hk with
        | 0, _ => exact Or.inl ⟨rfl, rfl⟩
        | 1, _ => exact Or.inr (Or.inl ⟨rfl, rfl⟩)
        | 2, _ => exact Or.inr (Or.inr ⟨rfl, rfl⟩)
      congr 2
      omega
    · refine r_iload_n dX12_isJobProperty_21 rfl rfl ?_
      refine r_i2l dX12_isJobProperty_22 rfl ?_
      refine r_lconst (v := (nI 0).toInt64) dX12_isJobProperty_23 (by decide) ?_
      refine r_ldc2 dX12_isJobProperty_24 kL_90 ?_
      refine s_S3I mX12_in dX12_isJobProperty_27 okX12_in lX12_82 npX12_in (by decide) (by decide) (by decide) (Nat.le_of_ble_eq_true rfl) (Nat.le_of_ble_eq_true rfl) (c_in2 (by decide) (by decide)) (fun x s1 hq => ?_)
      obtain ⟨rfl, rfl⟩ := hq
      refine r_goto (tgt := 42) dX12_isJobProperty_30 (by decide) ?_
      refine s_iret dX12_isJobProperty_42 rfl (nrw_b _) ?_
      refine ⟨_, rfl, rfl, ?_⟩
      have e : x_jl k = 99 ∧ k = 0 ∨ x_jl k = 200 ∧ k = 1 ∨ x_jl k = 9 ∧ k = 2 := by
        match k, hk with
        | 0, _ => exact Or.inl ⟨rfl, rfl⟩
        | 1, _ => exact Or.inr (Or.inl ⟨rfl, rfl⟩)
        | 2, _ => exact Or.inr (Or.inr ⟨rfl, rfl⟩)
      congr 2
      omega
  · refine r_iload_n dX12_isJobProperty_4 rfl rfl ?_
    refine r_i2l dX12_isJobProperty_5 rfl ?_
    refine r_lconst (v := (nI 0).toInt64) dX12_isJobProperty_6 (by decide) ?_
    refine r_ldc2 dX12_isJobProperty_7 kL_88 ?_
    refine s_S3I mX12_in dX12_isJobProperty_10 okX12_in lX12_82 npX12_in (by decide) (by decide) (by decide) (Nat.le_of_ble_eq_true rfl) (Nat.le_of_ble_eq_true rfl) (c_in2 (by decide) (by decide)) (fun x s1 hq => ?_)
    obtain ⟨rfl, rfl⟩ := hq
    refine r_goto (tgt := 42) dX12_isJobProperty_13 (by decide) ?_
    refine s_iret dX12_isJobProperty_42 rfl (nrw_b _) ?_
    refine ⟨_, rfl, rfl, ?_⟩
    have e : x_jl k = 99 ∧ k = 0 ∨ x_jl k = 200 ∧ k = 1 ∨ x_jl k = 9 ∧ k = 2 := by
      match k, hk with
      | 0, _ => exact Or.inl ⟨rfl, rfl⟩
      | 1, _ => exact Or.inr (Or.inl ⟨rfl, rfl⟩)
      | 2, _ => exact Or.inr (Or.inr ⟨rfl, rfl⟩)
    congr 2
    omega
set_option maxRecDepth 20000 in
set_option maxHeartbeats 1000000 in
theorem c_mAreJobProperties {G : q_G} {s : s_T} {r u w : Int32} : s_W G mX12_areJobProperties 4 0 0 (c_I (fun y9 s1 => s1 = s ∧ y9 = bI (iIn r 0 99 && iIn u 0 200 && iIn w 0 9))) 0 (q_ent mX12_areJobProperties [.int r, .int u, .int w]) [] s := by
  show s_W G mX12_areJobProperties 4 0 0 _ 0 [some (.int r), some (.int u), some (.int w)] [] s
  refine n_const 0 dX12_areJobProperties_0 (by decide) ?_
  refine r_iload_n dX12_areJobProperties_1 rfl rfl ?_
  refine s_S2I mX12_isJobProperty dX12_areJobProperties_2 okX12_isJobProperty lX12_94 npX12_isJobProperty (by decide) (by decide) (by decide) (Nat.le_of_ble_eq_true rfl) (Nat.le_of_ble_eq_true rfl) (c_mIsJobProperty (by decide)) (fun x s1 hq => ?_)
  obtain ⟨rfl, rfl⟩ := hq
  refine b_ifeq (tgt := 28) dX12_areJobProperties_5 (by decide) (fun c5 => ?_) (fun c5 => ?_)
  · refine n_const 0 dX12_areJobProperties_28 (by decide) ?_
    refine s_iret dX12_areJobProperties_29 rfl rfl ?_
    refine ⟨_, rfl, rfl, ?_⟩
    show _ = bI (iIn r 0 (x_jl 0) && iIn u 0 (x_jl 1) && iIn w 0 (x_jl 2))
    simp [*, bI]
  · refine n_const 1 dX12_areJobProperties_8 (by decide) ?_
    refine r_iload_n dX12_areJobProperties_9 rfl rfl ?_
    refine s_S2I mX12_isJobProperty dX12_areJobProperties_10 okX12_isJobProperty lX12_94 npX12_isJobProperty (by decide) (by decide) (by decide) (Nat.le_of_ble_eq_true rfl) (Nat.le_of_ble_eq_true rfl) (c_mIsJobProperty (by decide)) (fun x s1 hq => ?_)
    obtain ⟨rfl, rfl⟩ := hq
    refine b_ifeq (tgt := 28) dX12_areJobProperties_13 (by decide) (fun c13 => ?_) (fun c13 => ?_)
    · refine n_const 0 dX12_areJobProperties_28 (by decide) ?_
      refine s_iret dX12_areJobProperties_29 rfl rfl ?_
      refine ⟨_, rfl, rfl, ?_⟩
      show _ = bI (iIn r 0 (x_jl 0) && iIn u 0 (x_jl 1) && iIn w 0 (x_jl 2))
      simp [*, bI]
    · refine n_const 2 dX12_areJobProperties_16 (by decide) ?_
      refine r_iload_n dX12_areJobProperties_17 rfl rfl ?_
      refine s_S2I mX12_isJobProperty dX12_areJobProperties_18 okX12_isJobProperty lX12_94 npX12_isJobProperty (by decide) (by decide) (by decide) (Nat.le_of_ble_eq_true rfl) (Nat.le_of_ble_eq_true rfl) (c_mIsJobProperty (by decide)) (fun x s1 hq => ?_)
      obtain ⟨rfl, rfl⟩ := hq
      refine b_ifeq (tgt := 28) dX12_areJobProperties_21 (by decide) (fun c21 => ?_) (fun c21 => ?_)
      · refine n_const 0 dX12_areJobProperties_28 (by decide) ?_
        refine s_iret dX12_areJobProperties_29 rfl rfl ?_
        refine ⟨_, rfl, rfl, ?_⟩
        show _ = bI (iIn r 0 (x_jl 0) && iIn u 0 (x_jl 1) && iIn w 0 (x_jl 2))
        simp [*, bI]
      · refine n_const 1 dX12_areJobProperties_24 (by decide) ?_
        refine r_goto (tgt := 29) dX12_areJobProperties_25 (by decide) ?_
        refine s_iret dX12_areJobProperties_29 rfl rfl ?_
        refine ⟨_, rfl, rfl, ?_⟩
        show _ = bI (iIn r 0 (x_jl 0) && iIn u 0 (x_jl 1) && iIn w 0 (x_jl 2))
        simp [*, bI]
set_option maxRecDepth 20000 in
set_option maxHeartbeats 1000000 in
theorem c_mAreProperties {G : q_G} {s : s_T} {d f : Int32} : s_W G mX12_areProperties 4 0 0 (c_I (fun y9 s1 => s1 = s ∧ y9 = bI (iIn d 1 30 && iIn f 0 2))) 0 (q_ent mX12_areProperties [.int d, .int f]) [] s := by
  show s_W G mX12_areProperties 4 0 0 _ 0 [some (.int d), some (.int f)] [] s
  refine r_iload_n dX12_areProperties_0 rfl rfl ?_
  refine r_i2l dX12_areProperties_1 rfl ?_
  refine r_lconst (v := (nI 1).toInt64) dX12_areProperties_2 (by decide) ?_
  refine r_ldc2 dX12_areProperties_3 kL_106 ?_
  refine s_S3I mX12_in dX12_areProperties_6 okX12_in lX12_82 npX12_in (by decide) (by decide) (by decide) (Nat.le_of_ble_eq_true rfl) (Nat.le_of_ble_eq_true rfl) (c_in2 (by decide) (by decide)) (fun x s1 hq => ?_)
  obtain ⟨rfl, rfl⟩ := hq
  refine b_ifeq (tgt := 28) dX12_areProperties_9 (by decide) (fun c9 => ?_) (fun c9 => ?_)
  · refine n_const 0 dX12_areProperties_28 (by decide) ?_
    refine s_iret dX12_areProperties_29 rfl rfl ?_
    refine ⟨_, rfl, rfl, ?_⟩
    simp [*, bI]
  · refine r_iload_n dX12_areProperties_12 rfl rfl ?_
    refine r_i2l dX12_areProperties_13 rfl ?_
    refine r_lconst (v := (nI 0).toInt64) dX12_areProperties_14 (by decide) ?_
    refine r_ldc2 dX12_areProperties_15 kL_108 ?_
    refine s_S3I mX12_in dX12_areProperties_18 okX12_in lX12_82 npX12_in (by decide) (by decide) (by decide) (Nat.le_of_ble_eq_true rfl) (Nat.le_of_ble_eq_true rfl) (c_in2 (by decide) (by decide)) (fun x s1 hq => ?_)
    obtain ⟨rfl, rfl⟩ := hq
    refine b_ifeq (tgt := 28) dX12_areProperties_21 (by decide) (fun c21 => ?_) (fun c21 => ?_)
    · refine n_const 0 dX12_areProperties_28 (by decide) ?_
      refine s_iret dX12_areProperties_29 rfl rfl ?_
      refine ⟨_, rfl, rfl, ?_⟩
      simp [*, bI]
    · refine n_const 1 dX12_areProperties_24 (by decide) ?_
      refine r_goto (tgt := 29) dX12_areProperties_25 (by decide) ?_
      refine s_iret dX12_areProperties_29 rfl rfl ?_
      refine ⟨_, rfl, rfl, ?_⟩
      simp [*, bI]
/-- one of the first n operations of job j is on machine m -/
def x_hm (X : x_T) (j m : Nat) : Nat → Bool
  | 0 => false
  | n + 1 => x_hm X j m n || decide (X (62 + X (22 + 4 * j + n)) = m)
set_option maxRecDepth 20000 in
set_option maxHeartbeats 1000000 in
theorem c_hasMachine {G : q_G} {s : s_T} {X : x_T} {j m : Nat} (hM : m_R X s) (hw : x_wf X) (hj : j < X 0) (hm : m < 4) : s_W G mX12_hasMachine 2 0 0 (c_I (fun y9 s1 => s1 = s ∧ y9 = bI (x_hm X j m (X (17 + j))))) 0 (q_ent mX12_hasMachine [.ref 212, .int (nI j), .int (nI m)]) [] s := by
  show s_W G mX12_hasMachine 2 0 0 _ 0 [some (.ref 212), some (.int (nI j)), some (.int (nI m)), none, none] [] s
  have hz := x_sz hw
  have hjb := x_jb hw hj
  have lp : ∀ f i, i ≤ X (17 + j) → X (17 + j) < i + f → s_W G mX12_hasMachine 2 0 0 (c_I (fun y9 s1 => s1 = s ∧ y9 = bI (x_hm X j m (X (17 + j))))) 5 [some (.ref 212), some (.int (nI j)), some (.int (nI m)), some (.int (bI (x_hm X j m i))), some (.int (nI i))] [] s := by
    intro f
    induction f with
    | zero =>
      intro i hi hme
      exact absurd hme (by omega)
    | succ f ih =>
      intro i hi hme
      refine r_iload dX12_hasMachine_5 rfl ?_
      refine r_aload_n dX12_hasMachine_7 rfl rfl ?_
      refine s_getR dX12_hasMachine_8 fX12_9 lysX12 rfl ?_
      refine n_bip 17 dX12_hasMachine_11 (by decide) ?_
      refine r_iload_n dX12_hasMachine_13 rfl rfl ?_
      refine n_add dX12_hasMachine_14 ?_
      refine m_ld dX12_hasMachine_15 hM (by omega) ?_
      refine n_cge (tgt := 54) dX12_hasMachine_16 (by decide) (by omega) (by omega) (fun c16 => ?_) (fun c16 => ?_)
      · refine r_iload_n dX12_hasMachine_54 rfl rfl ?_
        refine s_iret dX12_hasMachine_55 rfl (nrw_b _) ?_
        have e9 : i = X (17 + j) := by omega
        subst e9
        exact ⟨_, rfl, rfl, rfl⟩
      · refine r_iload_n dX12_hasMachine_19 rfl rfl ?_
        refine b_ifne (tgt := 42) dX12_hasMachine_20 (by decide) (fun c20 => ?_) (fun c20 => ?_)
        · refine n_const 1 dX12_hasMachine_42 (by decide) ?_
          refine r_goto (tgt := 47) dX12_hasMachine_43 (by decide) ?_
          refine r_istore_n dX12_hasMachine_47 rfl (by decide) rfl ?_
          refine n_inc dX12_hasMachine_48 rfl (n_i1 _) (by decide) rfl ?_
          refine r_goto (tgt := 5) dX12_hasMachine_51 (by decide) ?_
          have e9 : x_hm X j m (i + 1) = _ := rfl
          first
            | (rw [show (nI 1 : Int32) = bI (x_hm X j m (i + 1)) by unfold x_hm; simp [*, bI]]; exact ih _ (by omega) (by omega))
            | (rw [show (nI 0 : Int32) = bI (x_hm X j m (i + 1)) by unfold x_hm; simp [*, bI]]; exact ih _ (by omega) (by omega))
        · refine r_aload_n dX12_hasMachine_23 rfl rfl ?_
          refine s_getR dX12_hasMachine_24 fX12_9 lysX12 rfl ?_
          refine n_bip 62 dX12_hasMachine_27 (by decide) ?_
          refine r_aload_n dX12_hasMachine_29 rfl rfl ?_
          refine r_iload_n dX12_hasMachine_30 rfl rfl ?_
          refine r_iload dX12_hasMachine_31 rfl ?_
          refine s_V2I mX12_sequence dX12_hasMachine_33 okX12_sequence lX12_110 npX12_sequence lysX12 rfl (by decide) (by decide) (by decide) (Nat.le_of_ble_eq_true rfl) (Nat.le_of_ble_eq_true rfl) (c_sequence hM (by omega) (by omega)) (fun x s1 hq => ?_)
          obtain ⟨rfl, rfl⟩ := hq
          have hrt := x_rt hw hj c16
          have hop := x_op hw hrt.1
          refine n_add dX12_hasMachine_36 ?_
          refine m_ld dX12_hasMachine_37 hM (by omega) ?_
          refine r_iload_n dX12_hasMachine_38 rfl rfl ?_
          refine n_cne (tgt := 46) dX12_hasMachine_39 (by decide) (by omega) (by omega) (fun c39 => ?_) (fun c39 => ?_)
          · refine n_const 0 dX12_hasMachine_46 (by decide) ?_
            refine r_istore_n dX12_hasMachine_47 rfl (by decide) rfl ?_
            refine n_inc dX12_hasMachine_48 rfl (n_i1 _) (by decide) rfl ?_
            refine r_goto (tgt := 5) dX12_hasMachine_51 (by decide) ?_
            have e9 : x_hm X j m (i + 1) = _ := rfl
            first
              | (rw [show (nI 1 : Int32) = bI (x_hm X j m (i + 1)) by unfold x_hm; simp [*, bI]]; exact ih _ (by omega) (by omega))
              | (rw [show (nI 0 : Int32) = bI (x_hm X j m (i + 1)) by unfold x_hm; simp [*, bI]]; exact ih _ (by omega) (by omega))
          · refine n_const 1 dX12_hasMachine_42 (by decide) ?_
            refine r_goto (tgt := 47) dX12_hasMachine_43 (by decide) ?_
            refine r_istore_n dX12_hasMachine_47 rfl (by decide) rfl ?_
            refine n_inc dX12_hasMachine_48 rfl (n_i1 _) (by decide) rfl ?_
            refine r_goto (tgt := 5) dX12_hasMachine_51 (by decide) ?_
            have e9 : x_hm X j m (i + 1) = _ := rfl
            first
              | (rw [show (nI 1 : Int32) = bI (x_hm X j m (i + 1)) by unfold x_hm; simp [*, bI]]; exact ih _ (by omega) (by omega))
              | (rw [show (nI 0 : Int32) = bI (x_hm X j m (i + 1)) by unfold x_hm; simp [*, bI]]; exact ih _ (by omega) (by omega))
  refine n_const 0 dX12_hasMachine_0 (by decide) ?_
  refine r_istore_n dX12_hasMachine_1 rfl (by decide) rfl ?_
  refine n_const 0 dX12_hasMachine_2 (by decide) ?_
  refine r_istore dX12_hasMachine_3 (by decide) rfl ?_
  exact lp (X (17 + j) + 1) 0 (by omega) (by omega)
/-- an operation more -/
def x_addOp (X : x_T) (j m d f : Nat) : x_T := va_up (va_up (va_up (va_up (va_up (va_up (va_up (va_up (va_up (va_up X (42 + X 1) j) (62 + X 1) m) (82 + X 1) d) (102 + X 1) f) (122 + X 1) (X (17 + j))) (22 + 4 * j + X (17 + j)) (X 1)) (17 + j) (X (17 + j) + 1)) (183 + 5 * m + X (179 + m)) (X 1)) (179 + m) (X (179 + m) + 1)) 1 (X 1 + 1)
set_option maxRecDepth 20000 in
set_option maxHeartbeats 1000000 in
theorem c_mCreateOperation {G : q_G} {s : s_T} {X : x_T} {j m d f : Nat} (hM : m_R X s) (hj : j < 5) (hm : m < 4) (h1 : X 1 < 20) (h2 : X (17 + j) < 4) (h3 : X (179 + m) < 5) : s_W G mX12_createOperation 2 0 0 (c_I (fun x s1 => x = nI (X 1) ∧ m_R (x_addOp X j m d f) s1 ∧ s_fr 213 214 s s1)) 0 (q_ent mX12_createOperation [.ref 212, .int (nI j), .int (nI m), .int (nI d), .int (nI f)]) [] s := by
  show s_W G mX12_createOperation 2 0 0 _ 0 [some (.ref 212), some (.int (nI j)), some (.int (nI m)), some (.int (nI d)), some (.int (nI f)), none] [] s
  have hf : s_fr 213 214 s s := s_fr_rf
  refine r_aload_n dX12_createOperation_0 rfl rfl ?_
  refine s_getR dX12_createOperation_1 fX12_9 lysX12 rfl ?_
  refine n_const 1 dX12_createOperation_4 (by decide) ?_
  refine m_ld dX12_createOperation_5 hM (by omega) ?_
  try simp (disch := omega) only [va_up_n, va_up_s]
  refine r_istore dX12_createOperation_6 (by decide) rfl ?_
  refine r_aload_n dX12_createOperation_8 rfl rfl ?_
  refine s_getR dX12_createOperation_9 fX12_9 lysX12 rfl ?_
  refine n_bip 42 dX12_createOperation_12 (by decide) ?_
  refine r_iload dX12_createOperation_14 rfl ?_
  refine n_add dX12_createOperation_16 ?_
  refine r_iload_n dX12_createOperation_17 rfl rfl ?_
  refine m_st dX12_createOperation_18 hM (by omega) (fun s hM hf1 => ?_)
  replace hf := s_fr_tr hf hf1
  refine r_aload_n dX12_createOperation_19 rfl rfl ?_
  refine s_getR dX12_createOperation_20 fX12_9 lysX12 rfl ?_
  refine n_bip 62 dX12_createOperation_23 (by decide) ?_
  refine r_iload dX12_createOperation_25 rfl ?_
  refine n_add dX12_createOperation_27 ?_
  refine r_iload_n dX12_createOperation_28 rfl rfl ?_
  refine m_st dX12_createOperation_29 hM (by omega) (fun s hM hf1 => ?_)
  replace hf := s_fr_tr hf hf1
  refine r_aload_n dX12_createOperation_30 rfl rfl ?_
  refine s_getR dX12_createOperation_31 fX12_9 lysX12 rfl ?_
  refine n_bip 82 dX12_createOperation_34 (by decide) ?_
  refine r_iload dX12_createOperation_36 rfl ?_
  refine n_add dX12_createOperation_38 ?_
  refine r_iload_n dX12_createOperation_39 rfl rfl ?_
  refine m_st dX12_createOperation_40 hM (by omega) (fun s hM hf1 => ?_)
  replace hf := s_fr_tr hf hf1
  refine r_aload_n dX12_createOperation_41 rfl rfl ?_
  refine s_getR dX12_createOperation_42 fX12_9 lysX12 rfl ?_
  refine n_bip 102 dX12_createOperation_45 (by decide) ?_
  refine r_iload dX12_createOperation_47 rfl ?_
  refine n_add dX12_createOperation_49 ?_
  refine r_iload dX12_createOperation_50 rfl ?_
  refine m_st dX12_createOperation_52 hM (by omega) (fun s hM hf1 => ?_)
  replace hf := s_fr_tr hf hf1
  refine r_aload_n dX12_createOperation_53 rfl rfl ?_
  refine s_getR dX12_createOperation_54 fX12_9 lysX12 rfl ?_
  refine n_bip 122 dX12_createOperation_57 (by decide) ?_
  refine r_iload dX12_createOperation_59 rfl ?_
  refine n_add dX12_createOperation_61 ?_
  refine r_aload_n dX12_createOperation_62 rfl rfl ?_
  refine s_getR dX12_createOperation_63 fX12_9 lysX12 rfl ?_
  refine n_bip 17 dX12_createOperation_66 (by decide) ?_
  refine r_iload_n dX12_createOperation_68 rfl rfl ?_
  refine n_add dX12_createOperation_69 ?_
  refine m_ld dX12_createOperation_70 hM (by omega) ?_
  try simp (disch := omega) only [va_up_n, va_up_s]
  refine m_st dX12_createOperation_71 hM (by omega) (fun s hM hf1 => ?_)
  replace hf := s_fr_tr hf hf1
  refine r_aload_n dX12_createOperation_72 rfl rfl ?_
  refine s_getR dX12_createOperation_73 fX12_9 lysX12 rfl ?_
  refine n_bip 22 dX12_createOperation_76 (by decide) ?_
  refine n_const 4 dX12_createOperation_78 (by decide) ?_
  refine r_iload_n dX12_createOperation_79 rfl rfl ?_
  refine n_mul dX12_createOperation_80 ?_
  refine n_add dX12_createOperation_81 ?_
  refine r_aload_n dX12_createOperation_82 rfl rfl ?_
  refine s_getR dX12_createOperation_83 fX12_9 lysX12 rfl ?_
  refine n_bip 17 dX12_createOperation_86 (by decide) ?_
  refine r_iload_n dX12_createOperation_88 rfl rfl ?_
  refine n_add dX12_createOperation_89 ?_
  refine m_ld dX12_createOperation_90 hM (by omega) ?_
  try simp (disch := omega) only [va_up_n, va_up_s]
  refine n_add dX12_createOperation_91 ?_
  refine r_iload dX12_createOperation_92 rfl ?_
  refine m_st dX12_createOperation_94 hM (by omega) (fun s hM hf1 => ?_)
  replace hf := s_fr_tr hf hf1
  refine r_aload_n dX12_createOperation_95 rfl rfl ?_
  refine s_getR dX12_createOperation_96 fX12_9 lysX12 rfl ?_
  refine n_bip 17 dX12_createOperation_99 (by decide) ?_
  refine r_iload_n dX12_createOperation_101 rfl rfl ?_
  refine n_add dX12_createOperation_102 ?_
  refine r_dup2 dX12_createOperation_103 rfl rfl ?_
  refine m_ld dX12_createOperation_104 hM (by omega) ?_
  try simp (disch := omega) only [va_up_n, va_up_s]
  refine n_const 1 dX12_createOperation_105 (by decide) ?_
  refine n_add dX12_createOperation_106 ?_
  refine m_st dX12_createOperation_107 hM (by omega) (fun s hM hf1 => ?_)
  replace hf := s_fr_tr hf hf1
  refine r_aload_n dX12_createOperation_108 rfl rfl ?_
  refine r_iload_n dX12_createOperation_109 rfl rfl ?_
  refine r_aload_n dX12_createOperation_110 rfl rfl ?_
  refine s_getR dX12_createOperation_111 fX12_9 lysX12 rfl ?_
  refine n_sip 179 dX12_createOperation_114 (by decide) ?_
  refine r_iload_n dX12_createOperation_117 rfl rfl ?_
  refine n_add dX12_createOperation_118 ?_
  refine m_ld dX12_createOperation_119 hM (by omega) ?_
  try simp (disch := omega) only [va_up_n, va_up_s]
  refine r_iload dX12_createOperation_120 rfl ?_
  refine s_V3V mX12_setOrdered dX12_createOperation_122 okX12_setOrdered lX12_114 npX12_setOrdered lysX12 rfl (by decide) (by decide) (by decide) (Nat.le_of_ble_eq_true rfl) (Nat.le_of_ble_eq_true rfl) (c_setOrdered hM (by omega) (by omega)) (fun s1 hq => ?_)
  obtain ⟨hM, hf1⟩ := hq
  replace hf := s_fr_tr hf hf1
  refine r_aload_n dX12_createOperation_125 rfl rfl ?_
  refine s_getR dX12_createOperation_126 fX12_9 lysX12 rfl ?_
  refine n_sip 179 dX12_createOperation_129 (by decide) ?_
  refine r_iload_n dX12_createOperation_132 rfl rfl ?_
  refine n_add dX12_createOperation_133 ?_
  refine r_dup2 dX12_createOperation_134 rfl rfl ?_
  refine m_ld dX12_createOperation_135 hM (by omega) ?_
  try simp (disch := omega) only [va_up_n, va_up_s]
  refine n_const 1 dX12_createOperation_136 (by decide) ?_
  refine n_add dX12_createOperation_137 ?_
  refine m_st dX12_createOperation_138 hM (by omega) (fun s hM hf1 => ?_)
  replace hf := s_fr_tr hf hf1
  refine r_aload_n dX12_createOperation_139 rfl rfl ?_
  refine s_getR dX12_createOperation_140 fX12_9 lysX12 rfl ?_
  refine n_const 1 dX12_createOperation_143 (by decide) ?_
  refine r_dup2 dX12_createOperation_144 rfl rfl ?_
  refine m_ld dX12_createOperation_145 hM (by omega) ?_
  try simp (disch := omega) only [va_up_n, va_up_s]
  refine n_const 1 dX12_createOperation_146 (by decide) ?_
  refine n_add dX12_createOperation_147 ?_
  refine m_st dX12_createOperation_148 hM (by omega) (fun s hM hf1 => ?_)
  replace hf := s_fr_tr hf hf1
  refine r_iload dX12_createOperation_149 rfl ?_
  refine s_iret dX12_createOperation_151 rfl rfl ?_
  exact ⟨_, rfl, rfl, hM, hf⟩
