/-! ===== makespan, time, completion, objective ===== -/
def x_sm (f : Nat → Nat) : Nat → Nat
  | 0 => 0
  | n + 1 => x_sm f n + f n
theorem n_max0 {a b : Nat} (ha : a < 2 ^ 31) (hb : b < 2 ^ 31) : (if nI 0 < nI a - nI b then nI a - nI b else nI 0) = nI (a - b) := by
  by_cases h : b < a
  · rw [pk_sub (Nat.le_of_lt h), if_pos ((nI_ltI (by decide) (by omega)).mpr (by omega))]
  · rw [if_neg (fun q => by rw [Int32.lt_iff_toInt_lt, nI_sub ha hb, nI_toInt (by decide)] at q; omega), show a - b = 0 by omega]
def x_si (X : x_T) (m i : Nat) : Nat := X (142 + 3 * X (102 + X (183 + 5 * m + i)) + X (102 + X (183 + 5 * m + (i + 1))))
def x_ss (X : x_T) (n : Nat) : Nat := x_sm (fun m => x_sm (x_si X m) (X (179 + m) - 1)) n
noncomputable def x_ta (X : x_T) (j : Nat) : Nat := x_cp X (x_e0 X) j - X (7 + j)
noncomputable def x_ob (X : x_T) (w : Nat) : Nat := if w = 0 then x_sm (x_cp X (x_e0 X)) (X 0) else if w = 1 then x_sm (fun j => X (12 + j) * x_ta X j) (X 0) else if w = 2 then x_sm (fun j => if 0 < x_ta X j then 1 else 0) (X 0) else if w = 3 then x_ss X 4 else x_sm (fun k => x_t0 X k - x_r0 X k) (X 1)
noncomputable def A_time (z : z_T) (k w : Int32) : a_T := if iLt k (z 0 1) = true then (if iIn w 0 2 = true then (0, nI (if iN w = 0 then x_r0 (z 0) (iN k) else if iN w = 1 then x_t0 (z 0) (iN k) else x_t0 (z 0) (iN k) + z 0 (82 + iN k)), z) else (2, 0, z)) else (1, 0, z)
noncomputable def A_makespan (z : z_T) : a_T := (0, nI (x_s0 (z 0)), z)
noncomputable def A_completion (z : z_T) (j : Int32) : a_T := if iLt j (z 0 0) = true then (0, nI (x_cp (z 0) (x_e0 (z 0)) (iN j)), z) else (1, 0, z)
noncomputable def A_objective (z : z_T) (w : Int32) : a_T := if iIn w 0 4 = true then (0, nI (x_ob (z 0) (iN w)), z) else (1, 0, z)
set_option maxRecDepth 20000 in
set_option maxHeartbeats 1000000 in
theorem m_time {G : q_G} {s : s_T} {z : z_T} (hz : z_wf z) (hM : m_R (z 0) s) (hO : m_O z s) {k a : Int32} : s_W G mX12_time 8 0 0 (m_P (A_time z k a) s) 0 (q_ent mX12_time [.ref 212, .int k, .int a]) [] s := by
  show s_W G mX12_time 8 0 0 _ 0 [some (.ref 212), some (.int k), some (.int a), none] [] s
  have hw := hz.1.1
  have hs := x_sz hw
  have hf : s_fr 212 234 s s := s_fr_rf
  refine r_aload_n dX12_time_0 rfl rfl ?_
  refine r_aload_n dX12_time_1 rfl rfl ?_
  refine r_iload_n dX12_time_2 rfl rfl ?_
  refine s_V1I mX12_isOperation dX12_time_3 okX12_isOperation lX12_135 npX12_isOperation lysX12 rfl (by decide) (by decide) (by decide) (Nat.le_of_ble_eq_true rfl) (Nat.le_of_ble_eq_true rfl) (c_mIsOperation hM hw) (fun x s1 hq => ?_)
  obtain ⟨rfl, rfl⟩ := hq
  refine b_ifne (tgt := 13) dX12_time_6 (by decide) (fun c6 => ?_) (fun c6 => ?_)
  · obtain ⟨k, rfl, hk, hk2⟩ := iLt_n c6
    have ek := iN_n hk2
    refine r_iload_n dX12_time_13 rfl rfl ?_
    refine r_i2l dX12_time_14 rfl ?_
    refine r_lconst (v := (nI 0).toInt64) dX12_time_15 (by decide) ?_
    refine r_ldc2 dX12_time_16 kL_108 ?_
    refine s_S3I mX12_in dX12_time_19 okX12_in lX12_82 npX12_in (by decide) (by decide) (by decide) (Nat.le_of_ble_eq_true rfl) (Nat.le_of_ble_eq_true rfl) (c_in2 (by decide) (by decide)) (fun x s1 hq => ?_)
    obtain ⟨rfl, rfl⟩ := hq
    refine b_ifne (tgt := 29) dX12_time_22 (by decide) (fun c22 => ?_) (fun c22 => ?_)
    · obtain ⟨a, rfl, ha0, ha, ha2⟩ := iIn_n c22
      have ea := iN_n ha2
      refine n_const 0 dX12_time_29 (by decide) ?_
      refine a_put dX12_time_30 gX12_79 lysX12 rfl rfl rfl (fun s1 hs1 hf1 => ?_)
      have h3 := (congrFun hs1 3).trans pk_us
      have hM := m_R_fr hM hf1 (Or.inr (by omega))
      have hO := m_O_eq hO (m_eq_put hs1 hf1 (by decide))
      have hf := s_fr_tr hf (s_fr_w (lo' := 212) (hi' := 234) hf1 (by omega) (by omega))
      refine r_aload_n dX12_time_33 rfl rfl ?_
      refine s_getI dX12_time_34 fX12_79 lysX12 rfl h3 ?_
      refine n_ifle (tgt := 42) dX12_time_37 (by decide) (by omega) (fun c37 => ?_) (fun c37 => ?_)
      · refine r_aload_n dX12_time_42 rfl rfl ?_
        refine s_V0I mX12_findTimes dX12_time_43 okX12_findTimes lX12_181 npX12_findTimes lysX12 rfl (by decide) (by decide) (by decide) (Nat.le_of_ble_eq_true rfl) (Nat.le_of_ble_eq_true rfl) (c_findTimes0 hM hO.2.2.2.2.2.2.2.2.2.1 hO.2.2.2.2.2.2.2.2.2.2.1 (z_gd hz)) (fun x s1 hq => ?_)
        obtain ⟨rfl, ht, hf1⟩ := hq
        replace hM := m_R_fr hM hf1 (Or.inl (by omega))
        replace hO := m_O_eq hO (m_eq_fr hf1 (by omega))
        replace h3 := (congrFun (hf1 212 (by omega)) 3).trans h3
        replace hf := s_fr_tr hf (s_fr_w hf1 (by omega) (by omega))
        refine r_istore_n dX12_time_46 rfl (by decide) rfl ?_
        refine r_iload_n dX12_time_47 rfl rfl ?_
        refine n_ifne (tgt := 60) dX12_time_48 (by decide) (by omega) (fun c48 => ?_) (fun c48 => ?_)
        · have ha9 : ¬ a = 0 := by omega
          refine r_iload_n dX12_time_60 rfl rfl ?_
          refine n_const 1 dX12_time_61 (by decide) ?_
          refine n_cne (tgt := 74) dX12_time_62 (by decide) (by omega) (by omega) (fun c62 => ?_) (fun c62 => ?_)
          · refine r_aload_n dX12_time_74 rfl rfl ?_
            refine r_iload_n dX12_time_75 rfl rfl ?_
            refine s_V1I mX12_endOf dX12_time_76 okX12_endOf lX12_164 npX12_endOf lysX12 rfl (by decide) (by decide) (by decide) (Nat.le_of_ble_eq_true rfl) (Nat.le_of_ble_eq_true rfl) (c_endOf hM (by omega) (ht _ hk).1) (fun x s1 hq => ?_)
            obtain ⟨rfl, rfl⟩ := hq
            refine s_iret dX12_time_79 rfl rfl ?_
            first
              | exact m_P_e (by unfold A_time; simp [*, show iN (nI 0) = 0 by decide, show iN (nI 1) = 1 by decide]) (by decide) h3 hM hO hf
              | exact m_P_s (by unfold A_time; simp [*, show iN (nI 0) = 0 by decide, show iN (nI 1) = 1 by decide]) h3 hM hO hf
              | exact m_P_x (by unfold A_time; simp [*, show iN (nI 0) = 0 by decide, show iN (nI 1) = 1 by decide]) h3 hM hO hf
          · subst c62
            refine r_aload_n dX12_time_65 rfl rfl ?_
            refine s_getR dX12_time_66 fX12_29 lysX12 rfl ?_
            refine r_iload_n dX12_time_69 rfl rfl ?_
            refine a_ld dX12_time_70 rfl (by omega) (by decide) (ht _ hk).1 ?_
            refine r_goto (tgt := 79) dX12_time_71 (by decide) ?_
            refine s_iret dX12_time_79 rfl rfl ?_
            first
              | exact m_P_e (by unfold A_time; simp [*, show iN (nI 0) = 0 by decide, show iN (nI 1) = 1 by decide]) (by decide) h3 hM hO hf
              | exact m_P_s (by unfold A_time; simp [*, show iN (nI 0) = 0 by decide, show iN (nI 1) = 1 by decide]) h3 hM hO hf
              | exact m_P_x (by unfold A_time; simp [*, show iN (nI 0) = 0 by decide, show iN (nI 1) = 1 by decide]) h3 hM hO hf
        · subst c48
          refine r_aload_n dX12_time_51 rfl rfl ?_
          refine s_getR dX12_time_52 fX12_26 lysX12 rfl ?_
          refine r_iload_n dX12_time_55 rfl rfl ?_
          refine a_ld dX12_time_56 rfl (by omega) (by decide) (ht _ hk).2 ?_
          refine r_goto (tgt := 79) dX12_time_57 (by decide) ?_
          refine s_iret dX12_time_79 rfl rfl ?_
          first
            | exact m_P_e (by unfold A_time; simp [*, show iN (nI 0) = 0 by decide, show iN (nI 1) = 1 by decide]) (by decide) h3 hM hO hf
            | exact m_P_s (by unfold A_time; simp [*, show iN (nI 0) = 0 by decide, show iN (nI 1) = 1 by decide]) h3 hM hO hf
            | exact m_P_x (by unfold A_time; simp [*, show iN (nI 0) = 0 by decide, show iN (nI 1) = 1 by decide]) h3 hM hO hf
      · exact absurd c37 (by decide)
    · refine n_const 2 dX12_time_25 (by decide) ?_
      refine r_goto (tgt := 30) dX12_time_26 (by decide) ?_
      refine a_put dX12_time_30 gX12_79 lysX12 rfl rfl rfl (fun s1 hs1 hf1 => ?_)
      have h3 := (congrFun hs1 3).trans pk_us
      have hM := m_R_fr hM hf1 (Or.inr (by omega))
      have hO := m_O_eq hO (m_eq_put hs1 hf1 (by decide))
      have hf := s_fr_tr hf (s_fr_w (lo' := 212) (hi' := 234) hf1 (by omega) (by omega))
      refine r_aload_n dX12_time_33 rfl rfl ?_
      refine s_getI dX12_time_34 fX12_79 lysX12 rfl h3 ?_
      refine n_ifle (tgt := 42) dX12_time_37 (by decide) (by omega) (fun c37 => ?_) (fun c37 => ?_)
      · exact absurd c37 (by decide)
      · refine n_const 0 dX12_time_40 (by decide) ?_
        refine s_iret dX12_time_41 rfl rfl ?_
        first
          | exact m_P_e (by unfold A_time; simp [*, show iN (nI 0) = 0 by decide, show iN (nI 1) = 1 by decide]) (by decide) h3 hM hO hf
          | exact m_P_s (by unfold A_time; simp [*, show iN (nI 0) = 0 by decide, show iN (nI 1) = 1 by decide]) h3 hM hO hf
          | exact m_P_x (by unfold A_time; simp [*, show iN (nI 0) = 0 by decide, show iN (nI 1) = 1 by decide]) h3 hM hO hf
  · refine n_const 1 dX12_time_9 (by decide) ?_
    refine r_goto (tgt := 30) dX12_time_10 (by decide) ?_
    refine a_put dX12_time_30 gX12_79 lysX12 rfl rfl rfl (fun s1 hs1 hf1 => ?_)
    have h3 := (congrFun hs1 3).trans pk_us
    have hM := m_R_fr hM hf1 (Or.inr (by omega))
    have hO := m_O_eq hO (m_eq_put hs1 hf1 (by decide))
    have hf := s_fr_tr hf (s_fr_w (lo' := 212) (hi' := 234) hf1 (by omega) (by omega))
    refine r_aload_n dX12_time_33 rfl rfl ?_
    refine s_getI dX12_time_34 fX12_79 lysX12 rfl h3 ?_
    refine n_ifle (tgt := 42) dX12_time_37 (by decide) (by omega) (fun c37 => ?_) (fun c37 => ?_)
    · exact absurd c37 (by decide)
    · refine n_const 0 dX12_time_40 (by decide) ?_
      refine s_iret dX12_time_41 rfl rfl ?_
      first
        | exact m_P_e (by unfold A_time; simp [*, show iN (nI 0) = 0 by decide, show iN (nI 1) = 1 by decide]) (by decide) h3 hM hO hf
        | exact m_P_s (by unfold A_time; simp [*, show iN (nI 0) = 0 by decide, show iN (nI 1) = 1 by decide]) h3 hM hO hf
        | exact m_P_x (by unfold A_time; simp [*, show iN (nI 0) = 0 by decide, show iN (nI 1) = 1 by decide]) h3 hM hO hf
set_option maxRecDepth 20000 in
set_option maxHeartbeats 1000000 in
theorem m_makespan {G : q_G} {s : s_T} {z : z_T} (hz : z_wf z) (hM : m_R (z 0) s) (hO : m_O z s) : s_W G mX12_makespan 8 0 0 (m_P (A_makespan z) s) 0 (q_ent mX12_makespan [.ref 212]) [] s := by
  show s_W G mX12_makespan 8 0 0 _ 0 [some (.ref 212)] [] s
  have hw := hz.1.1
  have hs := x_sz hw
  have hf : s_fr 212 234 s s := s_fr_rf
  refine r_aload_n dX12_makespan_0 rfl rfl ?_
  refine n_const 0 dX12_makespan_1 (by decide) ?_
  refine a_put dX12_makespan_2 gX12_79 lysX12 rfl rfl rfl (fun s1 hs1 hf1 => ?_)
  have h3 := (congrFun hs1 3).trans pk_us
  have hM := m_R_fr hM hf1 (Or.inr (by omega))
  have hO := m_O_eq hO (m_eq_put hs1 hf1 (by decide))
  have hf := s_fr_tr hf (s_fr_w (lo' := 212) (hi' := 234) hf1 (by omega) (by omega))
  refine r_aload_n dX12_makespan_5 rfl rfl ?_
  refine s_V0I mX12_makespanNow dX12_makespan_6 okX12_makespanNow lX12_188 npX12_makespanNow lysX12 rfl (by decide) (by decide) (by decide) (Nat.le_of_ble_eq_true rfl) (Nat.le_of_ble_eq_true rfl) (c_makespanNow0 hM hO.2.2.2.2.2.2.2.2.2.1 hO.2.2.2.2.2.2.2.2.2.2.1 (z_gd hz)) (fun x s1 hq => ?_)
  obtain ⟨rfl, ht, hf1⟩ := hq
  replace hM := m_R_fr hM hf1 (Or.inl (by omega))
  replace hO := m_O_eq hO (m_eq_fr hf1 (by omega))
  replace h3 := (congrFun (hf1 212 (by omega)) 3).trans h3
  replace hf := s_fr_tr hf (s_fr_w hf1 (by omega) (by omega))
  refine s_iret dX12_makespan_9 rfl rfl ?_
  exact m_P_s rfl h3 hM hO hf
set_option maxRecDepth 20000 in
set_option maxHeartbeats 1000000 in
theorem m_completion {G : q_G} {s : s_T} {z : z_T} (hz : z_wf z) (hM : m_R (z 0) s) (hO : m_O z s) {j : Int32} : s_W G mX12_completion 8 0 0 (m_P (A_completion z j) s) 0 (q_ent mX12_completion [.ref 212, .int j]) [] s := by
  show s_W G mX12_completion 8 0 0 _ 0 [some (.ref 212), some (.int j), none] [] s
  have hw := hz.1.1
  have hs := x_sz hw
  have hf : s_fr 212 234 s s := s_fr_rf
  refine r_aload_n dX12_completion_0 rfl rfl ?_
  refine r_aload_n dX12_completion_1 rfl rfl ?_
  refine r_iload_n dX12_completion_2 rfl rfl ?_
  refine s_V1I mX12_isJob dX12_completion_3 okX12_isJob lX12_118 npX12_isJob lysX12 rfl (by decide) (by decide) (by decide) (Nat.le_of_ble_eq_true rfl) (Nat.le_of_ble_eq_true rfl) (c_mIsJob hM hw) (fun x s1 hq => ?_)
  obtain ⟨rfl, rfl⟩ := hq
  refine b_ifeq (tgt := 13) dX12_completion_6 (by decide) (fun c6 => ?_) (fun c6 => ?_)
  · refine n_const 1 dX12_completion_13 (by decide) ?_
    refine a_put dX12_completion_14 gX12_79 lysX12 rfl rfl rfl (fun s1 hs1 hf1 => ?_)
    have h3 := (congrFun hs1 3).trans pk_us
    have hM := m_R_fr hM hf1 (Or.inr (by omega))
    have hO := m_O_eq hO (m_eq_put hs1 hf1 (by decide))
    have hf := s_fr_tr hf (s_fr_w (lo' := 212) (hi' := 234) hf1 (by omega) (by omega))
    refine r_aload_n dX12_completion_17 rfl rfl ?_
    refine s_getI dX12_completion_18 fX12_79 lysX12 rfl h3 ?_
    refine n_ifle (tgt := 26) dX12_completion_21 (by decide) (by omega) (fun c21 => ?_) (fun c21 => ?_)
    · exact absurd c21 (by decide)
    · refine n_const 0 dX12_completion_24 (by decide) ?_
      refine s_iret dX12_completion_25 rfl rfl ?_
      first
        | exact m_P_e (by unfold A_completion; simp [*]) (by decide) h3 hM hO hf
        | exact m_P_s (by unfold A_completion; simp [*]) h3 hM hO hf
        | exact m_P_x (by unfold A_completion; simp [*]) h3 hM hO hf
  · obtain ⟨j, rfl, hj, hj2⟩ := iLt_n c6
    have ej := iN_n hj2
    refine n_const 0 dX12_completion_9 (by decide) ?_
    refine r_goto (tgt := 14) dX12_completion_10 (by decide) ?_
    refine a_put dX12_completion_14 gX12_79 lysX12 rfl rfl rfl (fun s1 hs1 hf1 => ?_)
    have h3 := (congrFun hs1 3).trans pk_us
    have hM := m_R_fr hM hf1 (Or.inr (by omega))
    have hO := m_O_eq hO (m_eq_put hs1 hf1 (by decide))
    have hf := s_fr_tr hf (s_fr_w (lo' := 212) (hi' := 234) hf1 (by omega) (by omega))
    refine r_aload_n dX12_completion_17 rfl rfl ?_
    refine s_getI dX12_completion_18 fX12_79 lysX12 rfl h3 ?_
    refine n_ifle (tgt := 26) dX12_completion_21 (by decide) (by omega) (fun c21 => ?_) (fun c21 => ?_)
    · refine r_aload_n dX12_completion_26 rfl rfl ?_
      refine s_V0I mX12_findTimes dX12_completion_27 okX12_findTimes lX12_181 npX12_findTimes lysX12 rfl (by decide) (by decide) (by decide) (Nat.le_of_ble_eq_true rfl) (Nat.le_of_ble_eq_true rfl) (c_findTimes0 hM hO.2.2.2.2.2.2.2.2.2.1 hO.2.2.2.2.2.2.2.2.2.2.1 (z_gd hz)) (fun x s1 hq => ?_)
      obtain ⟨rfl, ht, hf1⟩ := hq
      replace hM := m_R_fr hM hf1 (Or.inl (by omega))
      replace hO := m_O_eq hO (m_eq_fr hf1 (by omega))
      replace h3 := (congrFun (hf1 212 (by omega)) 3).trans h3
      replace hf := s_fr_tr hf (s_fr_w hf1 (by omega) (by omega))
      refine r_istore_n dX12_completion_30 rfl (by decide) rfl ?_
      refine r_aload_n dX12_completion_31 rfl rfl ?_
      refine r_iload_n dX12_completion_32 rfl rfl ?_
      refine s_V1I mX12_completionOf dX12_completion_33 okX12_completionOf lX12_191 npX12_completionOf lysX12 rfl (by decide) (by decide) (by decide) (Nat.le_of_ble_eq_true rfl) (Nat.le_of_ble_eq_true rfl) (c_mCompletionOf hM (z_gd hz) hj ht) (fun x s1 hq => ?_)
      obtain ⟨rfl, rfl⟩ := hq
      refine s_iret dX12_completion_36 rfl rfl ?_
      first
        | exact m_P_e (by unfold A_completion; simp [*]) (by decide) h3 hM hO hf
        | exact m_P_s (by unfold A_completion; simp [*]) h3 hM hO hf
        | exact m_P_x (by unfold A_completion; simp [*]) h3 hM hO hf
    · exact absurd c21 (by decide)
set_option maxRecDepth 20000 in
set_option maxHeartbeats 1000000 in
theorem c_mSetupSum {G : q_G} {s : s_T} {X : x_T} (hM : m_R X s) (hw : x_wf X) : s_W G mX12_setupSum 2 0 0 (c_I (fun y9 s1 => s1 = s ∧ y9 = nI (x_ss X 4))) 0 (q_ent mX12_setupSum [.ref 212]) [] s := by
  show s_W G mX12_setupSum 2 0 0 _ 0 [some (.ref 212), none, none, none] [] s
  have hs := x_sz hw
  have ol : ∀ f m (L3 : Option Value), m ≤ 4 → 4 < m + f → s_W G mX12_setupSum 2 0 0 (c_I (fun y9 s1 => s1 = s ∧ y9 = nI (x_ss X 4))) 4 [some (.ref 212), some (.int (nI (x_ss X m))), some (.int (nI m)), L3] [] s := by
    intro f
    induction f with
    | zero =>
      intro m L3 hm hme
      exact absurd hme (by omega)
    | succ f ih =>
      intro m L3 hm hme
      refine r_iload_n dX12_setupSum_4 rfl rfl ?_
      refine n_const 4 dX12_setupSum_5 (by decide) ?_
      refine n_cge (tgt := 58) dX12_setupSum_6 (by decide) (by omega) (by omega) (fun c6 => ?_) (fun c6 => ?_)
      · refine r_iload_n dX12_setupSum_58 rfl rfl ?_
        refine s_iret dX12_setupSum_59 rfl rfl ?_
        have e9 : m = 4 := by omega
        subst e9
        exact ⟨_, rfl, rfl, rfl⟩
      · have hm4 := c6
        refine n_const 1 dX12_setupSum_9 (by decide) ?_
        refine r_istore_n dX12_setupSum_10 rfl (by decide) rfl ?_
        have il : ∀ f2 i, i ≤ X (179 + m) - 1 → X (179 + m) - 1 < i + f2 → s_W G mX12_setupSum 2 0 0 (c_I (fun y9 s1 => s1 = s ∧ y9 = nI (x_ss X 4))) 11 [some (.ref 212), some (.int (nI (x_ss X m + x_sm (x_si X m) i))), some (.int (nI m)), some (.int (nI (i + 1)))] [] s := by
          intro f2
          induction f2 with
          | zero =>
            intro i hi hme
            exact absurd hme (by omega)
          | succ f2 ih2 =>
            intro i hi hme
            have hmn := x_mn hw hm4
            refine r_iload_n dX12_setupSum_11 rfl rfl ?_
            refine r_aload_n dX12_setupSum_12 rfl rfl ?_
            refine s_getR dX12_setupSum_13 fX12_9 lysX12 rfl ?_
            refine n_sip 179 dX12_setupSum_16 (by decide) ?_
            refine r_iload_n dX12_setupSum_19 rfl rfl ?_
            refine n_add dX12_setupSum_20 ?_
            refine m_ld dX12_setupSum_21 hM (by omega) ?_
            refine n_cge (tgt := 52) dX12_setupSum_22 (by decide) (by omega) (by omega) (fun c22 => ?_) (fun c22 => ?_)
            · refine n_inc dX12_setupSum_52 rfl (n_i1 _) (by decide) rfl ?_
              refine r_goto (tgt := 4) dX12_setupSum_55 (by decide) ?_
              have e9 : i = X (179 + m) - 1 := by omega
              subst e9
              exact ih (m + 1) _ (by omega) (by omega)
            · have hod1 := x_od hw hm4 (p := i) (by omega)
              have hod2 := x_od hw hm4 (p := i + 1) (by omega)
              have hop1 := x_op hw hod1.1
              have hop2 := x_op hw hod2.1
              refine r_iload_n dX12_setupSum_25 rfl rfl ?_
              refine r_aload_n dX12_setupSum_26 rfl rfl ?_
              refine r_aload_n dX12_setupSum_27 rfl rfl ?_
              refine r_iload_n dX12_setupSum_28 rfl rfl ?_
              refine r_iload_n dX12_setupSum_29 rfl rfl ?_
              refine n_const 1 dX12_setupSum_30 (by decide) ?_
              refine n_sub dX12_setupSum_31 (by omega) ?_
              rw [Nat.add_sub_cancel]
              refine s_V2I mX12_ordered dX12_setupSum_32 okX12_ordered lX12_142 npX12_ordered lysX12 rfl (by decide) (by decide) (by decide) (Nat.le_of_ble_eq_true rfl) (Nat.le_of_ble_eq_true rfl) (c_ordered hM (by omega) (by omega)) (fun x s1 hq => ?_)
              obtain ⟨rfl, rfl⟩ := hq
              refine r_aload_n dX12_setupSum_35 rfl rfl ?_
              refine r_iload_n dX12_setupSum_36 rfl rfl ?_
              refine r_iload_n dX12_setupSum_37 rfl rfl ?_
              refine s_V2I mX12_ordered dX12_setupSum_38 okX12_ordered lX12_142 npX12_ordered lysX12 rfl (by decide) (by decide) (by decide) (Nat.le_of_ble_eq_true rfl) (Nat.le_of_ble_eq_true rfl) (c_ordered hM (by omega) (by omega)) (fun x s1 hq => ?_)
              obtain ⟨rfl, rfl⟩ := hq
              refine s_V2I mX12_setup dX12_setupSum_41 okX12_setup lX12_172 npX12_setup lysX12 rfl (by decide) (by decide) (by decide) (Nat.le_of_ble_eq_true rfl) (Nat.le_of_ble_eq_true rfl) (c_setup hM (by omega) (by omega) hop1.2.2.2.2.2.2.2.2.2 hop2.2.2.2.2.2.2.2.2.2) (fun x s1 hq => ?_)
              obtain ⟨rfl, rfl⟩ := hq
              refine n_add dX12_setupSum_44 ?_
              refine r_istore_n dX12_setupSum_45 rfl (by decide) rfl ?_
              refine n_inc dX12_setupSum_46 rfl (n_i1 _) (by decide) rfl ?_
              refine r_goto (tgt := 11) dX12_setupSum_49 (by decide) ?_
              rw [Nat.add_assoc (x_ss X m)]
              exact ih2 (i + 1) (by omega) (by omega)
        exact il (X (179 + m) + 1) 0 (by omega) (by omega)
  refine n_const 0 dX12_setupSum_0 (by decide) ?_
  refine r_istore_n dX12_setupSum_1 rfl (by decide) rfl ?_
  refine n_const 0 dX12_setupSum_2 (by decide) ?_
  refine r_istore_n dX12_setupSum_3 rfl (by decide) rfl ?_
  exact ol 5 0 _ (by omega) (by omega)
set_option maxRecDepth 20000 in
set_option maxHeartbeats 1000000 in
theorem m_objective {G : q_G} {s : s_T} {z : z_T} (hz : z_wf z) (hM : m_R (z 0) s) (hO : m_O z s) {a : Int32} : s_W G mX12_objective 8 0 0 (m_P (A_objective z a) s) 0 (q_ent mX12_objective [.ref 212, .int a]) [] s := by
  show s_W G mX12_objective 8 0 0 _ 0 [some (.ref 212), some (.int a), none, none, none, none] [] s
  have hw := hz.1.1
  have hs := x_sz hw
  have hf : s_fr 212 234 s s := s_fr_rf
  have hg := z_gd hz
  generalize hP : m_P (A_objective z a) s = PP
  refine r_aload_n dX12_objective_0 rfl rfl ?_
  refine r_iload_n dX12_objective_1 rfl rfl ?_
  refine r_i2l dX12_objective_2 rfl ?_
  refine r_lconst (v := (nI 0).toInt64) dX12_objective_3 (by decide) ?_
  refine r_ldc2 dX12_objective_4 kL_194 ?_
  refine s_S3I mX12_in dX12_objective_7 okX12_in lX12_82 npX12_in (by decide) (by decide) (by decide) (Nat.le_of_ble_eq_true rfl) (Nat.le_of_ble_eq_true rfl) (c_in2 (by decide) (by decide)) (fun x s1 hq => ?_)
  obtain ⟨rfl, rfl⟩ := hq
  refine b_ifeq (tgt := 17) dX12_objective_10 (by decide) (fun c10 => ?_) (fun c10 => ?_)
  · refine n_const 1 dX12_objective_17 (by decide) ?_
    refine a_put dX12_objective_18 gX12_79 lysX12 rfl rfl rfl (fun s1 hs1 hf1 => ?_)
    have h3 := (congrFun hs1 3).trans pk_us
    have hM := m_R_fr hM hf1 (Or.inr (by omega))
    have hO := m_O_eq hO (m_eq_put hs1 hf1 (by decide))
    have hf := s_fr_tr hf (s_fr_w (lo' := 212) (hi' := 234) hf1 (by omega) (by omega))
    refine r_aload_n dX12_objective_21 rfl rfl ?_
    refine s_getI dX12_objective_22 fX12_79 lysX12 rfl h3 ?_
    refine n_ifle (tgt := 30) dX12_objective_25 (by decide) (by omega) (fun c25 => ?_) (fun c25 => ?_)
    · exact absurd c25 (by decide)
    · refine n_const 0 dX12_objective_28 (by decide) ?_
      refine s_iret dX12_objective_29 rfl rfl ?_
      rw [← hP]
      first
        | exact m_P_e (by unfold A_objective; simp [*]) (by decide) h3 hM hO hf
        | exact m_P_s (by unfold A_objective; simp [*]) h3 hM hO hf
        | exact m_P_x (by unfold A_objective; simp [*]) h3 hM hO hf
  · obtain ⟨a, rfl, ha0, ha, ha2⟩ := iIn_n c10
    have ea := iN_n ha2
    refine n_const 0 dX12_objective_13 (by decide) ?_
    refine r_goto (tgt := 18) dX12_objective_14 (by decide) ?_
    refine a_put dX12_objective_18 gX12_79 lysX12 rfl rfl rfl (fun s1 hs1 hf1 => ?_)
    have h3 := (congrFun hs1 3).trans pk_us
    have hM := m_R_fr hM hf1 (Or.inr (by omega))
    have hO := m_O_eq hO (m_eq_put hs1 hf1 (by decide))
    have hf := s_fr_tr hf (s_fr_w (lo' := 212) (hi' := 234) hf1 (by omega) (by omega))
    refine r_aload_n dX12_objective_21 rfl rfl ?_
    refine s_getI dX12_objective_22 fX12_79 lysX12 rfl h3 ?_
    refine n_ifle (tgt := 30) dX12_objective_25 (by decide) (by omega) (fun c25 => ?_) (fun c25 => ?_)
    · refine r_aload_n dX12_objective_30 rfl rfl ?_
      refine s_V0I mX12_findTimes dX12_objective_31 okX12_findTimes lX12_181 npX12_findTimes lysX12 rfl (by decide) (by decide) (by decide) (Nat.le_of_ble_eq_true rfl) (Nat.le_of_ble_eq_true rfl) (c_findTimes0 hM hO.2.2.2.2.2.2.2.2.2.1 hO.2.2.2.2.2.2.2.2.2.2.1 (z_gd hz)) (fun x s1 hq => ?_)
      obtain ⟨rfl, ht, hf1⟩ := hq
      replace hM := m_R_fr hM hf1 (Or.inl (by omega))
      replace hO := m_O_eq hO (m_eq_fr hf1 (by omega))
      replace h3 := (congrFun (hf1 212 (by omega)) 3).trans h3
      replace hf := s_fr_tr hf (s_fr_w hf1 (by omega) (by omega))
      refine r_istore_n dX12_objective_34 rfl (by decide) rfl ?_
      rcases (show a = 0 ∨ a = 1 ∨ a = 2 ∨ a = 3 ∨ a = 4 by omega) with rfl | rfl | rfl | rfl | rfl
      · have lp : ∀ f j (L5 : Option Value), j ≤ z 0 0 → z 0 0 < j + f → s_W G mX12_objective 8 0 0 (PP) 93 [some (.ref 212), some (.int (nI 0)), some (.int (nI 0)), some (.int (nI (x_sm (x_cp (z 0) (x_e0 (z 0))) j))), some (.int (nI j)), L5] [] s1 := by
          intro f
          induction f with
          | zero =>
            intro j L5 hjl hme
            exact absurd hme (by omega)
          | succ f ih =>
            intro j L5 hjl hme
            refine r_iload dX12_objective_93 rfl ?_
            refine r_aload_n dX12_objective_95 rfl rfl ?_
            refine s_getR dX12_objective_96 fX12_9 lysX12 rfl ?_
            refine n_const 0 dX12_objective_99 (by decide) ?_
            refine m_ld dX12_objective_100 hM (by omega) ?_
            refine n_cge (tgt := 185) dX12_objective_101 (by decide) (by omega) (by omega) (fun c101 => ?_) (fun c101 => ?_)
            · refine r_iload_n dX12_objective_185 rfl rfl ?_
              refine s_iret dX12_objective_186 rfl rfl ?_
              have e9 : j = z 0 0 := by omega
              subst e9
              rw [← hP]
              first
                | exact m_P_s (by unfold A_objective; rw [if_pos (by decide), show iN (nI 0) = 0 by decide]; unfold x_ob; simp [*]) h3 hM hO hf
            · have hj := c101
              have hcp := x_cp_bd hg hj
              have hjb := x_jb hw hj
              refine r_iload_n dX12_objective_104 rfl rfl ?_
              refine n_const 3 dX12_objective_105 (by decide) ?_
              refine n_cge (tgt := 185) dX12_objective_106 (by decide) (by omega) (by omega) (fun c106 => ?_) (fun c106 => ?_)
              · exact absurd c106 (by decide)
              · refine n_const 0 dX12_objective_109 (by decide) ?_
                refine r_aload_n dX12_objective_110 rfl rfl ?_
                refine r_iload dX12_objective_111 rfl ?_
                refine s_V1I mX12_completionOf dX12_objective_113 okX12_completionOf lX12_191 npX12_completionOf lysX12 rfl (by decide) (by decide) (by decide) (Nat.le_of_ble_eq_true rfl) (Nat.le_of_ble_eq_true rfl) (c_mCompletionOf hM (z_gd hz) hj ht) (fun x s1 hq => ?_)
                obtain ⟨rfl, rfl⟩ := hq
                refine r_aload_n dX12_objective_116 rfl rfl ?_
                refine s_getR dX12_objective_117 fX12_9 lysX12 rfl ?_
                refine n_bip 7 dX12_objective_120 (by decide) ?_
                refine r_iload dX12_objective_122 rfl ?_
                refine n_add dX12_objective_124 ?_
                refine m_ld dX12_objective_125 hM (by omega) ?_
                refine r_isub dX12_objective_126 ?_
                refine r_mmax dX12_objective_127 kwM_X12_max kwM_static_max kwM_ini kwM_code_max (by decide) (Nat.le_of_ble_eq_true rfl) ?_
                rw [n_max0 (by omega) (by omega)]
                refine r_istore dX12_objective_130 (by decide) rfl ?_
                refine r_iload_n dX12_objective_132 rfl rfl ?_
                refine r_iload_n dX12_objective_133 rfl rfl ?_
                refine n_ifne (tgt := 146) dX12_objective_134 (by decide) (by omega) (fun c134 => ?_) (fun c134 => ?_)
                · exact absurd c134 (by decide)
                · refine r_aload_n dX12_objective_137 rfl rfl ?_
                  refine r_iload dX12_objective_138 rfl ?_
                  refine s_V1I mX12_completionOf dX12_objective_140 okX12_completionOf lX12_191 npX12_completionOf lysX12 rfl (by decide) (by decide) (by decide) (Nat.le_of_ble_eq_true rfl) (Nat.le_of_ble_eq_true rfl) (c_mCompletionOf hM (z_gd hz) hj ht) (fun x s1 hq => ?_)
                  obtain ⟨rfl, rfl⟩ := hq
                  refine r_goto (tgt := 177) dX12_objective_143 (by decide) ?_
                  refine n_add dX12_objective_177 ?_
                  refine r_istore_n dX12_objective_178 rfl (by decide) rfl ?_
                  refine n_inc dX12_objective_179 rfl (n_i1 _) (by decide) rfl ?_
                  refine r_goto (tgt := 93) dX12_objective_182 (by decide) ?_
                  exact ih (j + 1) _ (by omega) (by omega)
        refine r_iload_n dX12_objective_35 rfl rfl ?_
        refine n_const 3 dX12_objective_36 (by decide) ?_
        refine n_cne (tgt := 45) dX12_objective_37 (by decide) (by omega) (by omega) (fun c37 => ?_) (fun c37 => ?_)
        · refine n_const 0 dX12_objective_45 (by decide) ?_
          refine r_istore_n dX12_objective_46 rfl (by decide) rfl ?_
          refine n_const 0 dX12_objective_47 (by decide) ?_
          refine r_istore dX12_objective_48 (by decide) rfl ?_
          refine r_iload dX12_objective_50 rfl ?_
          refine r_aload_n dX12_objective_52 rfl rfl ?_
          refine s_getR dX12_objective_53 fX12_9 lysX12 rfl ?_
          refine n_const 1 dX12_objective_56 (by decide) ?_
          refine m_ld dX12_objective_57 hM (by omega) ?_
          refine n_cge (tgt := 90) dX12_objective_58 (by decide) (by omega) (by omega) (fun c58 => ?_) (fun c58 => ?_)
          · refine n_const 0 dX12_objective_90 (by decide) ?_
            refine r_istore dX12_objective_91 (by decide) rfl ?_
            exact lp (z 0 0 + 1) 0 _ (by omega) (by omega)
          · refine r_iload_n dX12_objective_61 rfl rfl ?_
            refine n_const 4 dX12_objective_62 (by decide) ?_
            refine n_cne (tgt := 90) dX12_objective_63 (by decide) (by omega) (by omega) (fun c63 => ?_) (fun c63 => ?_)
            · refine n_const 0 dX12_objective_90 (by decide) ?_
              refine r_istore dX12_objective_91 (by decide) rfl ?_
              exact lp (z 0 0 + 1) 0 _ (by omega) (by omega)
            · exact absurd c63 (by decide)
        · exact absurd c37 (by decide)
      · have lp : ∀ f j (L5 : Option Value), j ≤ z 0 0 → z 0 0 < j + f → s_W G mX12_objective 8 0 0 (PP) 93 [some (.ref 212), some (.int (nI 1)), some (.int (nI 0)), some (.int (nI (x_sm (fun j => z 0 (12 + j) * x_ta (z 0) j) j))), some (.int (nI j)), L5] [] s1 := by
          intro f
          induction f with
          | zero =>
            intro j L5 hjl hme
            exact absurd hme (by omega)
          | succ f ih =>
            intro j L5 hjl hme
            refine r_iload dX12_objective_93 rfl ?_
            refine r_aload_n dX12_objective_95 rfl rfl ?_
            refine s_getR dX12_objective_96 fX12_9 lysX12 rfl ?_
            refine n_const 0 dX12_objective_99 (by decide) ?_
            refine m_ld dX12_objective_100 hM (by omega) ?_
            refine n_cge (tgt := 185) dX12_objective_101 (by decide) (by omega) (by omega) (fun c101 => ?_) (fun c101 => ?_)
            · refine r_iload_n dX12_objective_185 rfl rfl ?_
              refine s_iret dX12_objective_186 rfl rfl ?_
              have e9 : j = z 0 0 := by omega
              subst e9
              rw [← hP]
              first
                | exact m_P_s (by unfold A_objective; rw [if_pos (by decide), show iN (nI 1) = 1 by decide]; unfold x_ob; simp [*]) h3 hM hO hf
            · have hj := c101
              have hcp := x_cp_bd hg hj
              have hjb := x_jb hw hj
              refine r_iload_n dX12_objective_104 rfl rfl ?_
              refine n_const 3 dX12_objective_105 (by decide) ?_
              refine n_cge (tgt := 185) dX12_objective_106 (by decide) (by omega) (by omega) (fun c106 => ?_) (fun c106 => ?_)
              · exact absurd c106 (by decide)
              · refine n_const 0 dX12_objective_109 (by decide) ?_
                refine r_aload_n dX12_objective_110 rfl rfl ?_
                refine r_iload dX12_objective_111 rfl ?_
                refine s_V1I mX12_completionOf dX12_objective_113 okX12_completionOf lX12_191 npX12_completionOf lysX12 rfl (by decide) (by decide) (by decide) (Nat.le_of_ble_eq_true rfl) (Nat.le_of_ble_eq_true rfl) (c_mCompletionOf hM (z_gd hz) hj ht) (fun x s1 hq => ?_)
                obtain ⟨rfl, rfl⟩ := hq
                refine r_aload_n dX12_objective_116 rfl rfl ?_
                refine s_getR dX12_objective_117 fX12_9 lysX12 rfl ?_
                refine n_bip 7 dX12_objective_120 (by decide) ?_
                refine r_iload dX12_objective_122 rfl ?_
                refine n_add dX12_objective_124 ?_
                refine m_ld dX12_objective_125 hM (by omega) ?_
                refine r_isub dX12_objective_126 ?_
                refine r_mmax dX12_objective_127 kwM_X12_max kwM_static_max kwM_ini kwM_code_max (by decide) (Nat.le_of_ble_eq_true rfl) ?_
                rw [n_max0 (by omega) (by omega)]
                refine r_istore dX12_objective_130 (by decide) rfl ?_
                refine r_iload_n dX12_objective_132 rfl rfl ?_
                refine r_iload_n dX12_objective_133 rfl rfl ?_
                refine n_ifne (tgt := 146) dX12_objective_134 (by decide) (by omega) (fun c134 => ?_) (fun c134 => ?_)
                · refine r_iload_n dX12_objective_146 rfl rfl ?_
                  refine n_const 1 dX12_objective_147 (by decide) ?_
                  refine n_cne (tgt := 167) dX12_objective_148 (by decide) (by omega) (by omega) (fun c148 => ?_) (fun c148 => ?_)
                  · exact absurd c148 (by decide)
                  · refine r_aload_n dX12_objective_151 rfl rfl ?_
                    refine s_getR dX12_objective_152 fX12_9 lysX12 rfl ?_
                    refine n_bip 12 dX12_objective_155 (by decide) ?_
                    refine r_iload dX12_objective_157 rfl ?_
                    refine n_add dX12_objective_159 ?_
                    refine m_ld dX12_objective_160 hM (by omega) ?_
                    refine r_iload dX12_objective_161 rfl ?_
                    refine n_mul dX12_objective_163 ?_
                    refine r_goto (tgt := 177) dX12_objective_164 (by decide) ?_
                    refine n_add dX12_objective_177 ?_
                    refine r_istore_n dX12_objective_178 rfl (by decide) rfl ?_
                    refine n_inc dX12_objective_179 rfl (n_i1 _) (by decide) rfl ?_
                    refine r_goto (tgt := 93) dX12_objective_182 (by decide) ?_
                    exact ih (j + 1) _ (by omega) (by omega)
                · exact absurd c134 (by decide)
        refine r_iload_n dX12_objective_35 rfl rfl ?_
        refine n_const 3 dX12_objective_36 (by decide) ?_
        refine n_cne (tgt := 45) dX12_objective_37 (by decide) (by omega) (by omega) (fun c37 => ?_) (fun c37 => ?_)
        · refine n_const 0 dX12_objective_45 (by decide) ?_
          refine r_istore_n dX12_objective_46 rfl (by decide) rfl ?_
          refine n_const 0 dX12_objective_47 (by decide) ?_
          refine r_istore dX12_objective_48 (by decide) rfl ?_
          refine r_iload dX12_objective_50 rfl ?_
          refine r_aload_n dX12_objective_52 rfl rfl ?_
          refine s_getR dX12_objective_53 fX12_9 lysX12 rfl ?_
          refine n_const 1 dX12_objective_56 (by decide) ?_
          refine m_ld dX12_objective_57 hM (by omega) ?_
          refine n_cge (tgt := 90) dX12_objective_58 (by decide) (by omega) (by omega) (fun c58 => ?_) (fun c58 => ?_)
          · refine n_const 0 dX12_objective_90 (by decide) ?_
            refine r_istore dX12_objective_91 (by decide) rfl ?_
            exact lp (z 0 0 + 1) 0 _ (by omega) (by omega)
          · refine r_iload_n dX12_objective_61 rfl rfl ?_
            refine n_const 4 dX12_objective_62 (by decide) ?_
            refine n_cne (tgt := 90) dX12_objective_63 (by decide) (by omega) (by omega) (fun c63 => ?_) (fun c63 => ?_)
            · refine n_const 0 dX12_objective_90 (by decide) ?_
              refine r_istore dX12_objective_91 (by decide) rfl ?_
              exact lp (z 0 0 + 1) 0 _ (by omega) (by omega)
            · exact absurd c63 (by decide)
        · exact absurd c37 (by decide)
      · have lp : ∀ f j (L5 : Option Value), j ≤ z 0 0 → z 0 0 < j + f → s_W G mX12_objective 8 0 0 (PP) 93 [some (.ref 212), some (.int (nI 2)), some (.int (nI 0)), some (.int (nI (x_sm (fun j => if 0 < x_ta (z 0) j then 1 else 0) j))), some (.int (nI j)), L5] [] s1 := by
          intro f
          induction f with
          | zero =>
            intro j L5 hjl hme
            exact absurd hme (by omega)
          | succ f ih =>
            intro j L5 hjl hme
            refine r_iload dX12_objective_93 rfl ?_
            refine r_aload_n dX12_objective_95 rfl rfl ?_
            refine s_getR dX12_objective_96 fX12_9 lysX12 rfl ?_
            refine n_const 0 dX12_objective_99 (by decide) ?_
            refine m_ld dX12_objective_100 hM (by omega) ?_
            refine n_cge (tgt := 185) dX12_objective_101 (by decide) (by omega) (by omega) (fun c101 => ?_) (fun c101 => ?_)
            · refine r_iload_n dX12_objective_185 rfl rfl ?_
              refine s_iret dX12_objective_186 rfl rfl ?_
              have e9 : j = z 0 0 := by omega
              subst e9
              rw [← hP]
              first
                | exact m_P_s (by unfold A_objective; rw [if_pos (by decide), show iN (nI 2) = 2 by decide]; unfold x_ob; simp [*]) h3 hM hO hf
            · have hj := c101
              have hcp := x_cp_bd hg hj
              have hjb := x_jb hw hj
              refine r_iload_n dX12_objective_104 rfl rfl ?_
              refine n_const 3 dX12_objective_105 (by decide) ?_
              refine n_cge (tgt := 185) dX12_objective_106 (by decide) (by omega) (by omega) (fun c106 => ?_) (fun c106 => ?_)
              · exact absurd c106 (by decide)
              · refine n_const 0 dX12_objective_109 (by decide) ?_
                refine r_aload_n dX12_objective_110 rfl rfl ?_
                refine r_iload dX12_objective_111 rfl ?_
                refine s_V1I mX12_completionOf dX12_objective_113 okX12_completionOf lX12_191 npX12_completionOf lysX12 rfl (by decide) (by decide) (by decide) (Nat.le_of_ble_eq_true rfl) (Nat.le_of_ble_eq_true rfl) (c_mCompletionOf hM (z_gd hz) hj ht) (fun x s1 hq => ?_)
                obtain ⟨rfl, rfl⟩ := hq
                refine r_aload_n dX12_objective_116 rfl rfl ?_
                refine s_getR dX12_objective_117 fX12_9 lysX12 rfl ?_
                refine n_bip 7 dX12_objective_120 (by decide) ?_
                refine r_iload dX12_objective_122 rfl ?_
                refine n_add dX12_objective_124 ?_
                refine m_ld dX12_objective_125 hM (by omega) ?_
                refine r_isub dX12_objective_126 ?_
                refine r_mmax dX12_objective_127 kwM_X12_max kwM_static_max kwM_ini kwM_code_max (by decide) (Nat.le_of_ble_eq_true rfl) ?_
                rw [n_max0 (by omega) (by omega)]
                refine r_istore dX12_objective_130 (by decide) rfl ?_
                refine r_iload_n dX12_objective_132 rfl rfl ?_
                refine r_iload_n dX12_objective_133 rfl rfl ?_
                refine n_ifne (tgt := 146) dX12_objective_134 (by decide) (by omega) (fun c134 => ?_) (fun c134 => ?_)
                · refine r_iload_n dX12_objective_146 rfl rfl ?_
                  refine n_const 1 dX12_objective_147 (by decide) ?_
                  refine n_cne (tgt := 167) dX12_objective_148 (by decide) (by omega) (by omega) (fun c148 => ?_) (fun c148 => ?_)
                  · refine r_iload dX12_objective_167 rfl ?_
                    refine n_ifle (tgt := 176) dX12_objective_169 (by decide) (by omega) (fun c169 => ?_) (fun c169 => ?_)
                    · refine n_const 0 dX12_objective_176 (by decide) ?_
                      refine n_add dX12_objective_177 ?_
                      refine r_istore_n dX12_objective_178 rfl (by decide) rfl ?_
                      refine n_inc dX12_objective_179 rfl (n_i1 _) (by decide) rfl ?_
                      refine r_goto (tgt := 93) dX12_objective_182 (by decide) ?_
                      first
                        | (rw [show x_sm (fun j => if 0 < x_ta (z 0) j then 1 else 0) j + 1 = x_sm (fun j => if 0 < x_ta (z 0) j then 1 else 0) (j + 1) by show _ = _ + (if _ then 1 else 0); rw [if_pos (by unfold x_ta; omega)]]; exact ih (j + 1) _ (by omega) (by omega))
                        | (rw [show x_sm (fun j => if 0 < x_ta (z 0) j then 1 else 0) j + 0 = x_sm (fun j => if 0 < x_ta (z 0) j then 1 else 0) (j + 1) by show _ = _ + (if _ then 1 else 0); rw [if_neg (by unfold x_ta; omega)]]; exact ih (j + 1) _ (by omega) (by omega))
                    · refine n_const 1 dX12_objective_172 (by decide) ?_
                      refine r_goto (tgt := 177) dX12_objective_173 (by decide) ?_
                      refine n_add dX12_objective_177 ?_
                      refine r_istore_n dX12_objective_178 rfl (by decide) rfl ?_
                      refine n_inc dX12_objective_179 rfl (n_i1 _) (by decide) rfl ?_
                      refine r_goto (tgt := 93) dX12_objective_182 (by decide) ?_
                      first
                        | (rw [show x_sm (fun j => if 0 < x_ta (z 0) j then 1 else 0) j + 1 = x_sm (fun j => if 0 < x_ta (z 0) j then 1 else 0) (j + 1) by show _ = _ + (if _ then 1 else 0); rw [if_pos (by unfold x_ta; omega)]]; exact ih (j + 1) _ (by omega) (by omega))
                        | (rw [show x_sm (fun j => if 0 < x_ta (z 0) j then 1 else 0) j + 0 = x_sm (fun j => if 0 < x_ta (z 0) j then 1 else 0) (j + 1) by show _ = _ + (if _ then 1 else 0); rw [if_neg (by unfold x_ta; omega)]]; exact ih (j + 1) _ (by omega) (by omega))
                  · exact absurd c148 (by decide)
                · exact absurd c134 (by decide)
        refine r_iload_n dX12_objective_35 rfl rfl ?_
        refine n_const 3 dX12_objective_36 (by decide) ?_
        refine n_cne (tgt := 45) dX12_objective_37 (by decide) (by omega) (by omega) (fun c37 => ?_) (fun c37 => ?_)
        · refine n_const 0 dX12_objective_45 (by decide) ?_
          refine r_istore_n dX12_objective_46 rfl (by decide) rfl ?_
          refine n_const 0 dX12_objective_47 (by decide) ?_
          refine r_istore dX12_objective_48 (by decide) rfl ?_
          refine r_iload dX12_objective_50 rfl ?_
          refine r_aload_n dX12_objective_52 rfl rfl ?_
          refine s_getR dX12_objective_53 fX12_9 lysX12 rfl ?_
          refine n_const 1 dX12_objective_56 (by decide) ?_
          refine m_ld dX12_objective_57 hM (by omega) ?_
          refine n_cge (tgt := 90) dX12_objective_58 (by decide) (by omega) (by omega) (fun c58 => ?_) (fun c58 => ?_)
          · refine n_const 0 dX12_objective_90 (by decide) ?_
            refine r_istore dX12_objective_91 (by decide) rfl ?_
            exact lp (z 0 0 + 1) 0 _ (by omega) (by omega)
          · refine r_iload_n dX12_objective_61 rfl rfl ?_
            refine n_const 4 dX12_objective_62 (by decide) ?_
            refine n_cne (tgt := 90) dX12_objective_63 (by decide) (by omega) (by omega) (fun c63 => ?_) (fun c63 => ?_)
            · refine n_const 0 dX12_objective_90 (by decide) ?_
              refine r_istore dX12_objective_91 (by decide) rfl ?_
              exact lp (z 0 0 + 1) 0 _ (by omega) (by omega)
            · exact absurd c63 (by decide)
        · exact absurd c37 (by decide)
      · refine r_iload_n dX12_objective_35 rfl rfl ?_
        refine n_const 3 dX12_objective_36 (by decide) ?_
        refine n_cne (tgt := 45) dX12_objective_37 (by decide) (by omega) (by omega) (fun c37 => ?_) (fun c37 => ?_)
        · exact absurd c37 (by decide)
        · refine r_aload_n dX12_objective_40 rfl rfl ?_
          refine s_V0I mX12_setupSum dX12_objective_41 okX12_setupSum lX12_196 npX12_setupSum lysX12 rfl (by decide) (by decide) (by decide) (Nat.le_of_ble_eq_true rfl) (Nat.le_of_ble_eq_true rfl) (c_mSetupSum hM hw) (fun x s1 hq => ?_)
          obtain ⟨rfl, rfl⟩ := hq
          refine s_iret dX12_objective_44 rfl rfl ?_
          rw [← hP]
          first
            | exact m_P_s (by unfold A_objective; rw [if_pos (by decide), show iN (nI 3) = 3 by decide]; unfold x_ob; simp [*]) h3 hM hO hf
      · have lp : ∀ f k (L5 : Option Value), k ≤ z 0 1 → z 0 1 < k + f → s_W G mX12_objective 8 0 0 (PP) 50 [some (.ref 212), some (.int (nI 4)), some (.int (nI 0)), some (.int (nI (x_sm (fun k => x_t0 (z 0) k - x_r0 (z 0) k) k))), some (.int (nI k)), L5] [] s1 := by
          intro f
          induction f with
          | zero =>
            intro k L5 hkl hme
            exact absurd hme (by omega)
          | succ f ih =>
            intro k L5 hkl hme
            have hkb := fun q => x_t0_bd hg (o := k) q
            refine r_iload dX12_objective_50 rfl ?_
            refine r_aload_n dX12_objective_52 rfl rfl ?_
            refine s_getR dX12_objective_53 fX12_9 lysX12 rfl ?_
            refine n_const 1 dX12_objective_56 (by decide) ?_
            refine m_ld dX12_objective_57 hM (by omega) ?_
            refine n_cge (tgt := 90) dX12_objective_58 (by decide) (by omega) (by omega) (fun c58 => ?_) (fun c58 => ?_)
            · refine n_const 0 dX12_objective_90 (by decide) ?_
              refine r_istore dX12_objective_91 (by decide) rfl ?_
              refine r_iload dX12_objective_93 rfl ?_
              refine r_aload_n dX12_objective_95 rfl rfl ?_
              refine s_getR dX12_objective_96 fX12_9 lysX12 rfl ?_
              refine n_const 0 dX12_objective_99 (by decide) ?_
              refine m_ld dX12_objective_100 hM (by omega) ?_
              refine n_cge (tgt := 185) dX12_objective_101 (by decide) (by omega) (by omega) (fun c101 => ?_) (fun c101 => ?_)
              · refine r_iload_n dX12_objective_185 rfl rfl ?_
                refine s_iret dX12_objective_186 rfl rfl ?_
                have e9 : k = z 0 1 := by omega
                subst e9
                rw [← hP]
                first
                  | exact m_P_s (by unfold A_objective; rw [if_pos (by decide), show iN (nI 4) = 4 by decide]; unfold x_ob; simp [*]) h3 hM hO hf
              · refine r_iload_n dX12_objective_104 rfl rfl ?_
                refine n_const 3 dX12_objective_105 (by decide) ?_
                refine n_cge (tgt := 185) dX12_objective_106 (by decide) (by omega) (by omega) (fun c106 => ?_) (fun c106 => ?_)
                · refine r_iload_n dX12_objective_185 rfl rfl ?_
                  refine s_iret dX12_objective_186 rfl rfl ?_
                  have e9 : k = z 0 1 := by omega
                  subst e9
                  rw [← hP]
                  first
                    | exact m_P_s (by unfold A_objective; rw [if_pos (by decide), show iN (nI 4) = 4 by decide]; unfold x_ob; simp [*]) h3 hM hO hf
                · exact absurd c106 (by decide)
            · have hk := c58
              have hkc := x_t0_bd hg hk
              refine r_iload_n dX12_objective_61 rfl rfl ?_
              refine n_const 4 dX12_objective_62 (by decide) ?_
              refine n_cne (tgt := 90) dX12_objective_63 (by decide) (by omega) (by omega) (fun c63 => ?_) (fun c63 => ?_)
              · exact absurd c63 (by decide)
              · refine r_iload_n dX12_objective_66 rfl rfl ?_
                refine r_aload_n dX12_objective_67 rfl rfl ?_
                refine s_getR dX12_objective_68 fX12_29 lysX12 rfl ?_
                refine r_iload dX12_objective_71 rfl ?_
                refine a_ld dX12_objective_73 rfl (by omega) (by decide) (ht _ hk).1 ?_
                refine r_aload_n dX12_objective_74 rfl rfl ?_
                refine s_getR dX12_objective_75 fX12_26 lysX12 rfl ?_
                refine r_iload dX12_objective_78 rfl ?_
                refine a_ld dX12_objective_80 rfl (by omega) (by decide) (ht _ hk).2 ?_
                refine n_sub dX12_objective_81 (by omega) ?_
                refine n_add dX12_objective_82 ?_
                refine r_istore_n dX12_objective_83 rfl (by decide) rfl ?_
                refine n_inc dX12_objective_84 rfl (n_i1 _) (by decide) rfl ?_
                refine r_goto (tgt := 50) dX12_objective_87 (by decide) ?_
                exact ih (k + 1) _ (by omega) (by omega)
        refine r_iload_n dX12_objective_35 rfl rfl ?_
        refine n_const 3 dX12_objective_36 (by decide) ?_
        refine n_cne (tgt := 45) dX12_objective_37 (by decide) (by omega) (by omega) (fun c37 => ?_) (fun c37 => ?_)
        · refine n_const 0 dX12_objective_45 (by decide) ?_
          refine r_istore_n dX12_objective_46 rfl (by decide) rfl ?_
          refine n_const 0 dX12_objective_47 (by decide) ?_
          refine r_istore dX12_objective_48 (by decide) rfl ?_
          exact lp (z 0 1 + 1) 0 _ (by omega) (by omega)
        · exact absurd c37 (by decide)
    · exact absurd c25 (by decide)
