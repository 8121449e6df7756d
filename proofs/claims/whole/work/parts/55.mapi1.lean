/-! ===== what the calls answer ===== -/
abbrev a_T : Type := Nat × Int32 × z_T
def A_addJob (z : z_T) (r u w : Int32) : a_T := if (iIn r 0 99 && iIn u 0 200 && iIn w 0 9) = true then (if z 0 0 = 5 then (2, 0, z) else (0, nI (z 0 0), va_up z 0 (x_addJob (z 0) (iN r) (iN u) (iN w)))) else (1, 0, z)
def A_addOperation (z : z_T) (j m d f : Int32) : a_T := if (iLt j (z 0 0) && iLt m 4) = true then (if (iIn d 1 30 && iIn f 0 2) = true then (if z 0 (17 + iN j) = 4 ∨ x_hm (z 0) (iN j) (iN m) (z 0 (17 + iN j)) = true then (3, 0, z) else (0, nI (z 0 1), va_up z 0 (x_addOp (z 0) (iN j) (iN m) (iN d) (iN f)))) else (2, 0, z)) else (1, 0, z)
def A_setJob (z : z_T) (j w v : Int32) : a_T := if iLt j (z 0 0) = true then (if (iIn w 0 2 && iIn v 0 (x_jl (iN w))) = true then (0, nI (z 0 (2 + 5 * iN w + iN j)), va_up z 0 (va_up (z 0) (2 + 5 * iN w + iN j) (iN v))) else (2, 0, z)) else (1, 0, z)
def A_setDuration (z : z_T) (k d : Int32) : a_T := if iLt k (z 0 1) = true then (if iIn d 1 30 = true then (0, nI (z 0 (82 + iN k)), va_up z 0 (va_up (z 0) (82 + iN k) (iN d))) else (2, 0, z)) else (1, 0, z)
def A_setSetup (z : z_T) (f g t : Int32) : a_T := if (iIn f 0 2 && iIn g 0 2) = true then (if iIn t 0 9 = true then (0, nI (z 0 (142 + 3 * iN f + iN g)), va_up z 0 (va_up (z 0) (142 + 3 * iN f + iN g) (iN t))) else (2, 0, z)) else (1, 0, z)
def x_addBr (X : x_T) (m a n : Nat) : x_T := va_up (va_up (va_up X (155 + (3 * m + X (151 + m))) a) (167 + (3 * m + X (151 + m))) n) (151 + m) (X (151 + m) + 1)
def A_addBreakdown (z : z_T) (m a n : Int32) : a_T := if iLt m 4 = true then (if (iIn a 0 400 && iIn n 1 60) = true then (if z 0 (151 + iN m) = 3 then (3, 0, z) else (0, nI (z 0 (151 + iN m) + 1), va_up z 0 (x_addBr (z 0) (iN m) (iN a) (iN n)))) else (2, 0, z)) else (1, 0, z)
def A_clearBreakdowns (z : z_T) (m : Int32) : a_T := if iLt m 4 = true then (0, nI (z 0 (151 + iN m)), va_up z 0 (va_up (z 0) (151 + iN m) 0)) else (1, 0, z)
def A_count (z : z_T) (w : Int32) : a_T := if iIn w 0 1 = true then (0, nI (z 0 (iN w)), z) else (1, 0, z)
def A_property (z : z_T) (k w : Int32) : a_T := if iLt k (z 0 1) = true then (if iIn w 0 5 = true then (0, (if iN w = 5 then nI (x_po (z 0) (iN k)) else nI (z 0 (42 + 20 * iN w + iN k))), z) else (2, 0, z)) else (1, 0, z)
def A_order (z : z_T) (m p : Int32) : a_T := if iLt m 4 = true then (if iLt p (z 0 (179 + iN m)) = true then (0, nI (z 0 (183 + 5 * iN m + iN p)), z) else (2, 0, z)) else (1, 0, z)
theorem m_P_e {a : a_T} {z : z_T} {c : Nat} {s s1 : s_T} {y : Int32} (e : a = (c, 0, z)) (hc : c ≠ 0) (h3 : s1 212 3 = nI c) (hM : m_R (z 0) s1) (hO : m_O z s1) (hf : s_fr 212 234 s s1) : m_P a s (.inl (some (.int y))) s1 := m_P_i e (fun q => absurd q hc) h3 hM hO hf
theorem m_P_s {a : a_T} {z : z_T} {s s1 : s_T} {y : Int32} (e : a = (0, y, z)) (h3 : s1 212 3 = nI 0) (hM : m_R (z 0) s1) (hO : m_O z s1) (hf : s_fr 212 234 s s1) : m_P a s (.inl (some (.int y))) s1 := m_P_i e (fun _ => rfl) h3 hM hO hf
theorem m_P_x {a : a_T} {z : z_T} {X : x_T} {s s1 : s_T} {y : Int32} (e : a = (0, y, va_up z 0 X)) (h3 : s1 212 3 = nI 0) (hM : m_R X s1) (hO : m_O z s1) (hf : s_fr 212 234 s s1) : m_P a s (.inl (some (.int y))) s1 := m_P_i e (fun _ => rfl) h3 hM hO hf
set_option maxRecDepth 20000 in
set_option maxHeartbeats 1000000 in
theorem m_addJob {G : q_G} {s : s_T} {z : z_T} (hz : z_wf z) (hM : m_R (z 0) s) (hO : m_O z s) {r u w : Int32} : s_W G mX12_addJob 6 0 0 (m_P (A_addJob z r u w) s) 0 (q_ent mX12_addJob [.ref 212, .int r, .int u, .int w]) [] s := by
  show s_W G mX12_addJob 6 0 0 _ 0 [some (.ref 212), some (.int r), some (.int u), some (.int w)] [] s
  have hw := hz.1.1
  have hs := x_sz hw
  have hf : s_fr 212 234 s s := s_fr_rf
  refine r_aload_n dX12_addJob_0 rfl rfl ?_
  refine r_iload_n dX12_addJob_1 rfl rfl ?_
  refine r_iload_n dX12_addJob_2 rfl rfl ?_
  refine r_iload_n dX12_addJob_3 rfl rfl ?_
  refine s_S3I mX12_areJobProperties dX12_addJob_4 okX12_areJobProperties lX12_98 npX12_areJobProperties (by decide) (by decide) (by decide) (Nat.le_of_ble_eq_true rfl) (Nat.le_of_ble_eq_true rfl) c_mAreJobProperties (fun x s1 hq => ?_)
  obtain ⟨rfl, rfl⟩ := hq
  refine b_ifne (tgt := 14) dX12_addJob_7 (by decide) (fun c7 => ?_) (fun c7 => ?_)
  · have hjj := c7
    simp only [Bool.and_eq_true] at hjj
    obtain ⟨⟨h1, h2⟩, h4⟩ := hjj
    obtain ⟨r, rfl, -, hr, hr2⟩ := iIn_n h1
    obtain ⟨u, rfl, -, hu, hu2⟩ := iIn_n h2
    obtain ⟨w, rfl, -, hw1, hw2⟩ := iIn_n h4
    have er := iN_n hr2
    have eu := iN_n hu2
    have ew := iN_n hw2
    refine r_aload_n dX12_addJob_14 rfl rfl ?_
    refine s_getR dX12_addJob_15 fX12_9 lysX12 rfl ?_
    refine n_const 0 dX12_addJob_18 (by decide) ?_
    refine m_ld dX12_addJob_19 hM (by omega) ?_
    try simp (disch := omega) only [va_up_n, va_up_s]
    refine n_const 5 dX12_addJob_20 (by decide) ?_
    refine n_cne (tgt := 28) dX12_addJob_21 (by decide) (by omega) (by omega) (fun c21 => ?_) (fun c21 => ?_)
    · refine n_const 0 dX12_addJob_28 (by decide) ?_
      refine a_put dX12_addJob_29 gX12_79 lysX12 rfl rfl rfl (fun s1 hs1 hf1 => ?_)
      have h3 := (congrFun hs1 3).trans pk_us
      have hM := m_R_fr hM hf1 (Or.inr (by omega))
      have hO := m_O_eq hO (m_eq_put hs1 hf1 (by decide))
      have hf := s_fr_tr hf (s_fr_w (lo' := 212) (hi' := 234) hf1 (by omega) (by omega))
      refine r_aload_n dX12_addJob_32 rfl rfl ?_
      refine s_getI dX12_addJob_33 fX12_79 lysX12 rfl h3 ?_
      refine n_ifle (tgt := 43) dX12_addJob_36 (by decide) (by omega) (fun c36 => ?_) (fun c36 => ?_)
      · refine r_aload_n dX12_addJob_43 rfl rfl ?_
        refine r_iload_n dX12_addJob_44 rfl rfl ?_
        refine r_iload_n dX12_addJob_45 rfl rfl ?_
        refine r_iload_n dX12_addJob_46 rfl rfl ?_
        refine s_V3I mX12_createJob dX12_addJob_47 okX12_createJob lX12_102 npX12_createJob lysX12 rfl (by decide) (by decide) (by decide) (Nat.le_of_ble_eq_true rfl) (Nat.le_of_ble_eq_true rfl) (c_createJob hM (by omega)) (fun x s1 hq => ?_)
        obtain ⟨rfl, hM, hf1⟩ := hq
        replace hO := m_O_eq hO (m_eq_fr hf1 (by omega))
        replace h3 := (congrFun (hf1 212 (by omega)) 3).trans h3
        replace hf := s_fr_tr hf (s_fr_w hf1 (by omega) (by omega))
        refine s_iret dX12_addJob_50 rfl rfl ?_
        first
          | exact m_P_e (by unfold A_addJob; simp [*]) (by decide) h3 hM hO hf
          | exact m_P_s (by unfold A_addJob; simp [*]) h3 hM hO hf
          | exact m_P_x (by unfold A_addJob; simp [*]) h3 hM hO hf
      · exact absurd c36 (by decide)
    · refine n_const 2 dX12_addJob_24 (by decide) ?_
      refine r_goto (tgt := 29) dX12_addJob_25 (by decide) ?_
      refine a_put dX12_addJob_29 gX12_79 lysX12 rfl rfl rfl (fun s1 hs1 hf1 => ?_)
      have h3 := (congrFun hs1 3).trans pk_us
      have hM := m_R_fr hM hf1 (Or.inr (by omega))
      have hO := m_O_eq hO (m_eq_put hs1 hf1 (by decide))
      have hf := s_fr_tr hf (s_fr_w (lo' := 212) (hi' := 234) hf1 (by omega) (by omega))
      refine r_aload_n dX12_addJob_32 rfl rfl ?_
      refine s_getI dX12_addJob_33 fX12_79 lysX12 rfl h3 ?_
      refine n_ifle (tgt := 43) dX12_addJob_36 (by decide) (by omega) (fun c36 => ?_) (fun c36 => ?_)
      · exact absurd c36 (by decide)
      · refine n_const 0 dX12_addJob_39 (by decide) ?_
        refine r_goto (tgt := 50) dX12_addJob_40 (by decide) ?_
        refine s_iret dX12_addJob_50 rfl rfl ?_
        first
          | exact m_P_e (by unfold A_addJob; simp [*]) (by decide) h3 hM hO hf
          | exact m_P_s (by unfold A_addJob; simp [*]) h3 hM hO hf
          | exact m_P_x (by unfold A_addJob; simp [*]) h3 hM hO hf
  · refine n_const 1 dX12_addJob_10 (by decide) ?_
    refine r_goto (tgt := 29) dX12_addJob_11 (by decide) ?_
    refine a_put dX12_addJob_29 gX12_79 lysX12 rfl rfl rfl (fun s1 hs1 hf1 => ?_)
    have h3 := (congrFun hs1 3).trans pk_us
    have hM := m_R_fr hM hf1 (Or.inr (by omega))
    have hO := m_O_eq hO (m_eq_put hs1 hf1 (by decide))
    have hf := s_fr_tr hf (s_fr_w (lo' := 212) (hi' := 234) hf1 (by omega) (by omega))
    refine r_aload_n dX12_addJob_32 rfl rfl ?_
    refine s_getI dX12_addJob_33 fX12_79 lysX12 rfl h3 ?_
    refine n_ifle (tgt := 43) dX12_addJob_36 (by decide) (by omega) (fun c36 => ?_) (fun c36 => ?_)
    · exact absurd c36 (by decide)
    · refine n_const 0 dX12_addJob_39 (by decide) ?_
      refine r_goto (tgt := 50) dX12_addJob_40 (by decide) ?_
      refine s_iret dX12_addJob_50 rfl rfl ?_
      first
        | exact m_P_e (by unfold A_addJob; simp [*]) (by decide) h3 hM hO hf
        | exact m_P_s (by unfold A_addJob; simp [*]) h3 hM hO hf
        | exact m_P_x (by unfold A_addJob; simp [*]) h3 hM hO hf
set_option maxRecDepth 20000 in
set_option maxHeartbeats 1000000 in
theorem m_setDuration {G : q_G} {s : s_T} {z : z_T} (hz : z_wf z) (hM : m_R (z 0) s) (hO : m_O z s) {k d : Int32} : s_W G mX12_setDuration 6 0 0 (m_P (A_setDuration z k d) s) 0 (q_ent mX12_setDuration [.ref 212, .int k, .int d]) [] s := by
  show s_W G mX12_setDuration 6 0 0 _ 0 [some (.ref 212), some (.int k), some (.int d), none] [] s
  have hw := hz.1.1
  have hs := x_sz hw
  have hf : s_fr 212 234 s s := s_fr_rf
  refine r_aload_n dX12_setDuration_0 rfl rfl ?_
  refine r_aload_n dX12_setDuration_1 rfl rfl ?_
  refine r_iload_n dX12_setDuration_2 rfl rfl ?_
  refine s_V1I mX12_isOperation dX12_setDuration_3 okX12_isOperation lX12_135 npX12_isOperation lysX12 rfl (by decide) (by decide) (by decide) (Nat.le_of_ble_eq_true rfl) (Nat.le_of_ble_eq_true rfl) (c_mIsOperation hM hw) (fun x s1 hq => ?_)
  obtain ⟨rfl, rfl⟩ := hq
  refine b_ifne (tgt := 13) dX12_setDuration_6 (by decide) (fun c6 => ?_) (fun c6 => ?_)
  · obtain ⟨k, rfl, hk, hk2⟩ := iLt_n c6
    have ek := iN_n hk2
    refine r_iload_n dX12_setDuration_13 rfl rfl ?_
    refine r_i2l dX12_setDuration_14 rfl ?_
    refine r_lconst (v := (nI 1).toInt64) dX12_setDuration_15 (by decide) ?_
    refine r_ldc2 dX12_setDuration_16 kL_106 ?_
    refine s_S3I mX12_in dX12_setDuration_19 okX12_in lX12_82 npX12_in (by decide) (by decide) (by decide) (Nat.le_of_ble_eq_true rfl) (Nat.le_of_ble_eq_true rfl) (c_in2 (by decide) (by decide)) (fun x s1 hq => ?_)
    obtain ⟨rfl, rfl⟩ := hq
    refine b_ifne (tgt := 29) dX12_setDuration_22 (by decide) (fun c22 => ?_) (fun c22 => ?_)
    · obtain ⟨d, rfl, hd0, hd, hd2⟩ := iIn_n c22
      have ed := iN_n hd2
      refine n_const 0 dX12_setDuration_29 (by decide) ?_
      refine a_put dX12_setDuration_30 gX12_79 lysX12 rfl rfl rfl (fun s1 hs1 hf1 => ?_)
      have h3 := (congrFun hs1 3).trans pk_us
      have hM := m_R_fr hM hf1 (Or.inr (by omega))
      have hO := m_O_eq hO (m_eq_put hs1 hf1 (by decide))
      have hf := s_fr_tr hf (s_fr_w (lo' := 212) (hi' := 234) hf1 (by omega) (by omega))
      refine r_aload_n dX12_setDuration_33 rfl rfl ?_
      refine s_getI dX12_setDuration_34 fX12_79 lysX12 rfl h3 ?_
      refine n_ifle (tgt := 42) dX12_setDuration_37 (by decide) (by omega) (fun c37 => ?_) (fun c37 => ?_)
      · refine r_aload_n dX12_setDuration_42 rfl rfl ?_
        refine s_getR dX12_setDuration_43 fX12_9 lysX12 rfl ?_
        refine n_bip 82 dX12_setDuration_46 (by decide) ?_
        refine r_iload_n dX12_setDuration_48 rfl rfl ?_
        refine n_add dX12_setDuration_49 ?_
        refine m_ld dX12_setDuration_50 hM (by omega) ?_
        try simp (disch := omega) only [va_up_n, va_up_s]
        refine r_istore_n dX12_setDuration_51 rfl (by decide) rfl ?_
        refine r_aload_n dX12_setDuration_52 rfl rfl ?_
        refine s_getR dX12_setDuration_53 fX12_9 lysX12 rfl ?_
        refine n_bip 82 dX12_setDuration_56 (by decide) ?_
        refine r_iload_n dX12_setDuration_58 rfl rfl ?_
        refine n_add dX12_setDuration_59 ?_
        refine r_iload_n dX12_setDuration_60 rfl rfl ?_
        refine m_st dX12_setDuration_61 hM (by omega) (fun s hM hf1 => ?_)
        replace hO := m_O_eq hO (m_eq_fr hf1 (by omega))
        replace h3 := (congrFun (hf1 212 (by omega)) 3).trans h3
        replace hf := s_fr_tr hf (s_fr_w hf1 (by omega) (by omega))
        refine r_iload_n dX12_setDuration_62 rfl rfl ?_
        refine s_iret dX12_setDuration_63 rfl rfl ?_
        first
          | exact m_P_e (by unfold A_setDuration; simp [*]) (by decide) h3 hM hO hf
          | exact m_P_s (by unfold A_setDuration; simp [*]) h3 hM hO hf
          | exact m_P_x (by unfold A_setDuration; simp [*]) h3 hM hO hf
      · exact absurd c37 (by decide)
    · refine n_const 2 dX12_setDuration_25 (by decide) ?_
      refine r_goto (tgt := 30) dX12_setDuration_26 (by decide) ?_
      refine a_put dX12_setDuration_30 gX12_79 lysX12 rfl rfl rfl (fun s1 hs1 hf1 => ?_)
      have h3 := (congrFun hs1 3).trans pk_us
      have hM := m_R_fr hM hf1 (Or.inr (by omega))
      have hO := m_O_eq hO (m_eq_put hs1 hf1 (by decide))
      have hf := s_fr_tr hf (s_fr_w (lo' := 212) (hi' := 234) hf1 (by omega) (by omega))
      refine r_aload_n dX12_setDuration_33 rfl rfl ?_
      refine s_getI dX12_setDuration_34 fX12_79 lysX12 rfl h3 ?_
      refine n_ifle (tgt := 42) dX12_setDuration_37 (by decide) (by omega) (fun c37 => ?_) (fun c37 => ?_)
      · exact absurd c37 (by decide)
      · refine n_const 0 dX12_setDuration_40 (by decide) ?_
        refine s_iret dX12_setDuration_41 rfl rfl ?_
        first
          | exact m_P_e (by unfold A_setDuration; simp [*]) (by decide) h3 hM hO hf
          | exact m_P_s (by unfold A_setDuration; simp [*]) h3 hM hO hf
          | exact m_P_x (by unfold A_setDuration; simp [*]) h3 hM hO hf
  · refine n_const 1 dX12_setDuration_9 (by decide) ?_
    refine r_goto (tgt := 30) dX12_setDuration_10 (by decide) ?_
    refine a_put dX12_setDuration_30 gX12_79 lysX12 rfl rfl rfl (fun s1 hs1 hf1 => ?_)
    have h3 := (congrFun hs1 3).trans pk_us
    have hM := m_R_fr hM hf1 (Or.inr (by omega))
    have hO := m_O_eq hO (m_eq_put hs1 hf1 (by decide))
    have hf := s_fr_tr hf (s_fr_w (lo' := 212) (hi' := 234) hf1 (by omega) (by omega))
    refine r_aload_n dX12_setDuration_33 rfl rfl ?_
    refine s_getI dX12_setDuration_34 fX12_79 lysX12 rfl h3 ?_
    refine n_ifle (tgt := 42) dX12_setDuration_37 (by decide) (by omega) (fun c37 => ?_) (fun c37 => ?_)
    · exact absurd c37 (by decide)
    · refine n_const 0 dX12_setDuration_40 (by decide) ?_
      refine s_iret dX12_setDuration_41 rfl rfl ?_
      first
        | exact m_P_e (by unfold A_setDuration; simp [*]) (by decide) h3 hM hO hf
        | exact m_P_s (by unfold A_setDuration; simp [*]) h3 hM hO hf
        | exact m_P_x (by unfold A_setDuration; simp [*]) h3 hM hO hf
set_option maxRecDepth 20000 in
set_option maxHeartbeats 1000000 in
theorem m_setSetup {G : q_G} {s : s_T} {z : z_T} (hz : z_wf z) (hM : m_R (z 0) s) (hO : m_O z s) {f g t : Int32} : s_W G mX12_setSetup 6 0 0 (m_P (A_setSetup z f g t) s) 0 (q_ent mX12_setSetup [.ref 212, .int f, .int g, .int t]) [] s := by
  show s_W G mX12_setSetup 6 0 0 _ 0 [some (.ref 212), some (.int f), some (.int g), some (.int t), none, none] [] s
  have hw := hz.1.1
  have hs := x_sz hw
  have hf : s_fr 212 234 s s := s_fr_rf
  refine r_aload_n dX12_setSetup_0 rfl rfl ?_
  refine r_iload_n dX12_setSetup_1 rfl rfl ?_
  refine r_i2l dX12_setSetup_2 rfl ?_
  refine r_lconst (v := (nI 0).toInt64) dX12_setSetup_3 (by decide) ?_
  refine r_ldc2 dX12_setSetup_4 kL_108 ?_
  refine s_S3I mX12_in dX12_setSetup_7 okX12_in lX12_82 npX12_in (by decide) (by decide) (by decide) (Nat.le_of_ble_eq_true rfl) (Nat.le_of_ble_eq_true rfl) (c_in2 (by decide) (by decide)) (fun x s1 hq => ?_)
  obtain ⟨rfl, rfl⟩ := hq
  refine b_ifeq (tgt := 25) dX12_setSetup_10 (by decide) (fun c10 => ?_) (fun c10 => ?_)
  · refine n_const 1 dX12_setSetup_25 (by decide) ?_
    refine r_goto (tgt := 46) dX12_setSetup_26 (by decide) ?_
    refine a_put dX12_setSetup_46 gX12_79 lysX12 rfl rfl rfl (fun s1 hs1 hf1 => ?_)
    have h3 := (congrFun hs1 3).trans pk_us
    have hM := m_R_fr hM hf1 (Or.inr (by omega))
    have hO := m_O_eq hO (m_eq_put hs1 hf1 (by decide))
    have hf := s_fr_tr hf (s_fr_w (lo' := 212) (hi' := 234) hf1 (by omega) (by omega))
    refine r_aload_n dX12_setSetup_49 rfl rfl ?_
    refine s_getI dX12_setSetup_50 fX12_79 lysX12 rfl h3 ?_
    refine n_ifle (tgt := 58) dX12_setSetup_53 (by decide) (by omega) (fun c53 => ?_) (fun c53 => ?_)
    · exact absurd c53 (by decide)
    · refine n_const 0 dX12_setSetup_56 (by decide) ?_
      refine s_iret dX12_setSetup_57 rfl rfl ?_
      first
        | exact m_P_e (by unfold A_setSetup; simp [*]) (by decide) h3 hM hO hf
        | exact m_P_s (by unfold A_setSetup; simp [*]) h3 hM hO hf
        | exact m_P_x (by unfold A_setSetup; simp [*]) h3 hM hO hf
  · obtain ⟨f, rfl, hf0, hf, hf2⟩ := iIn_n c10
    have ef := iN_n hf2
    refine r_iload_n dX12_setSetup_13 rfl rfl ?_
    refine r_i2l dX12_setSetup_14 rfl ?_
    refine r_lconst (v := (nI 0).toInt64) dX12_setSetup_15 (by decide) ?_
    refine r_ldc2 dX12_setSetup_16 kL_108 ?_
    refine s_S3I mX12_in dX12_setSetup_19 okX12_in lX12_82 npX12_in (by decide) (by decide) (by decide) (Nat.le_of_ble_eq_true rfl) (Nat.le_of_ble_eq_true rfl) (c_in2 (by decide) (by decide)) (fun x s1 hq => ?_)
    obtain ⟨rfl, rfl⟩ := hq
    refine b_ifne (tgt := 29) dX12_setSetup_22 (by decide) (fun c22 => ?_) (fun c22 => ?_)
    · obtain ⟨g, rfl, hg0, hg, hg2⟩ := iIn_n c22
      have eg := iN_n hg2
      refine r_iload_n dX12_setSetup_29 rfl rfl ?_
      refine r_i2l dX12_setSetup_30 rfl ?_
      refine r_lconst (v := (nI 0).toInt64) dX12_setSetup_31 (by decide) ?_
      refine r_ldc2 dX12_setSetup_32 kL_92 ?_
      refine s_S3I mX12_in dX12_setSetup_35 okX12_in lX12_82 npX12_in (by decide) (by decide) (by decide) (Nat.le_of_ble_eq_true rfl) (Nat.le_of_ble_eq_true rfl) (c_in2 (by decide) (by decide)) (fun x s1 hq => ?_)
      obtain ⟨rfl, rfl⟩ := hq
      refine b_ifne (tgt := 45) dX12_setSetup_38 (by decide) (fun c38 => ?_) (fun c38 => ?_)
      · obtain ⟨t, rfl, ht0, ht, ht2⟩ := iIn_n c38
        have et := iN_n ht2
        refine n_const 0 dX12_setSetup_45 (by decide) ?_
        refine a_put dX12_setSetup_46 gX12_79 lysX12 rfl rfl rfl (fun s1 hs1 hf1 => ?_)
        have h3 := (congrFun hs1 3).trans pk_us
        have hM := m_R_fr hM hf1 (Or.inr (by omega))
        have hO := m_O_eq hO (m_eq_put hs1 hf1 (by decide))
        have hf := s_fr_tr hf (s_fr_w (lo' := 212) (hi' := 234) hf1 (by omega) (by omega))
        refine r_aload_n dX12_setSetup_49 rfl rfl ?_
        refine s_getI dX12_setSetup_50 fX12_79 lysX12 rfl h3 ?_
        refine n_ifle (tgt := 58) dX12_setSetup_53 (by decide) (by omega) (fun c53 => ?_) (fun c53 => ?_)
        · refine n_sip 142 dX12_setSetup_58 (by decide) ?_
          refine n_const 3 dX12_setSetup_61 (by decide) ?_
          refine r_iload_n dX12_setSetup_62 rfl rfl ?_
          refine n_mul dX12_setSetup_63 ?_
          refine n_add dX12_setSetup_64 ?_
          refine r_iload_n dX12_setSetup_65 rfl rfl ?_
          refine n_add dX12_setSetup_66 ?_
          refine r_istore dX12_setSetup_67 (by decide) rfl ?_
          refine r_aload_n dX12_setSetup_69 rfl rfl ?_
          refine s_getR dX12_setSetup_70 fX12_9 lysX12 rfl ?_
          refine r_iload dX12_setSetup_73 rfl ?_
          refine m_ld dX12_setSetup_75 hM (by omega) ?_
          try simp (disch := omega) only [va_up_n, va_up_s]
          refine r_istore dX12_setSetup_76 (by decide) rfl ?_
          refine r_aload_n dX12_setSetup_78 rfl rfl ?_
          refine s_getR dX12_setSetup_79 fX12_9 lysX12 rfl ?_
          refine r_iload dX12_setSetup_82 rfl ?_
          refine r_iload_n dX12_setSetup_84 rfl rfl ?_
          refine m_st dX12_setSetup_85 hM (by omega) (fun s hM hf1 => ?_)
          replace hO := m_O_eq hO (m_eq_fr hf1 (by omega))
          replace h3 := (congrFun (hf1 212 (by omega)) 3).trans h3
          replace hf := s_fr_tr hf (s_fr_w hf1 (by omega) (by omega))
          refine r_iload dX12_setSetup_86 rfl ?_
          refine s_iret dX12_setSetup_88 rfl rfl ?_
          first
            | exact m_P_e (by unfold A_setSetup; simp [*]) (by decide) h3 hM hO hf
            | exact m_P_s (by unfold A_setSetup; simp [*]) h3 hM hO hf
            | exact m_P_x (by unfold A_setSetup; simp [*]) h3 hM hO hf
        · exact absurd c53 (by decide)
      · refine n_const 2 dX12_setSetup_41 (by decide) ?_
        refine r_goto (tgt := 46) dX12_setSetup_42 (by decide) ?_
        refine a_put dX12_setSetup_46 gX12_79 lysX12 rfl rfl rfl (fun s1 hs1 hf1 => ?_)
        have h3 := (congrFun hs1 3).trans pk_us
        have hM := m_R_fr hM hf1 (Or.inr (by omega))
        have hO := m_O_eq hO (m_eq_put hs1 hf1 (by decide))
        have hf := s_fr_tr hf (s_fr_w (lo' := 212) (hi' := 234) hf1 (by omega) (by omega))
        refine r_aload_n dX12_setSetup_49 rfl rfl ?_
        refine s_getI dX12_setSetup_50 fX12_79 lysX12 rfl h3 ?_
        refine n_ifle (tgt := 58) dX12_setSetup_53 (by decide) (by omega) (fun c53 => ?_) (fun c53 => ?_)
        · exact absurd c53 (by decide)
        · refine n_const 0 dX12_setSetup_56 (by decide) ?_
          refine s_iret dX12_setSetup_57 rfl rfl ?_
          first
            | exact m_P_e (by unfold A_setSetup; simp [*]) (by decide) h3 hM hO hf
            | exact m_P_s (by unfold A_setSetup; simp [*]) h3 hM hO hf
            | exact m_P_x (by unfold A_setSetup; simp [*]) h3 hM hO hf
    · refine n_const 1 dX12_setSetup_25 (by decide) ?_
      refine r_goto (tgt := 46) dX12_setSetup_26 (by decide) ?_
      refine a_put dX12_setSetup_46 gX12_79 lysX12 rfl rfl rfl (fun s1 hs1 hf1 => ?_)
      have h3 := (congrFun hs1 3).trans pk_us
      have hM := m_R_fr hM hf1 (Or.inr (by omega))
      have hO := m_O_eq hO (m_eq_put hs1 hf1 (by decide))
      have hf := s_fr_tr hf (s_fr_w (lo' := 212) (hi' := 234) hf1 (by omega) (by omega))
      refine r_aload_n dX12_setSetup_49 rfl rfl ?_
      refine s_getI dX12_setSetup_50 fX12_79 lysX12 rfl h3 ?_
      refine n_ifle (tgt := 58) dX12_setSetup_53 (by decide) (by omega) (fun c53 => ?_) (fun c53 => ?_)
      · exact absurd c53 (by decide)
      · refine n_const 0 dX12_setSetup_56 (by decide) ?_
        refine s_iret dX12_setSetup_57 rfl rfl ?_
        first
          | exact m_P_e (by unfold A_setSetup; simp [*]) (by decide) h3 hM hO hf
          | exact m_P_s (by unfold A_setSetup; simp [*]) h3 hM hO hf
          | exact m_P_x (by unfold A_setSetup; simp [*]) h3 hM hO hf
set_option maxRecDepth 20000 in
set_option maxHeartbeats 1000000 in
theorem m_setJob {G : q_G} {s : s_T} {z : z_T} (hz : z_wf z) (hM : m_R (z 0) s) (hO : m_O z s) {j a v : Int32} : s_W G mX12_setJob 6 0 0 (m_P (A_setJob z j a v) s) 0 (q_ent mX12_setJob [.ref 212, .int j, .int a, .int v]) [] s := by
  show s_W G mX12_setJob 6 0 0 _ 0 [some (.ref 212), some (.int j), some (.int a), some (.int v), none, none] [] s
  have hw := hz.1.1
  have hs := x_sz hw
  have hf : s_fr 212 234 s s := s_fr_rf
  refine r_aload_n dX12_setJob_0 rfl rfl ?_
  refine r_aload_n dX12_setJob_1 rfl rfl ?_
  refine r_iload_n dX12_setJob_2 rfl rfl ?_
  refine s_V1I mX12_isJob dX12_setJob_3 okX12_isJob lX12_118 npX12_isJob lysX12 rfl (by decide) (by decide) (by decide) (Nat.le_of_ble_eq_true rfl) (Nat.le_of_ble_eq_true rfl) (c_mIsJob hM hw) (fun x s1 hq => ?_)
  obtain ⟨rfl, rfl⟩ := hq
  refine b_ifne (tgt := 13) dX12_setJob_6 (by decide) (fun c6 => ?_) (fun c6 => ?_)
  · obtain ⟨j, rfl, hj, hj2⟩ := iLt_n c6
    have ej := iN_n hj2
    refine r_iload_n dX12_setJob_13 rfl rfl ?_
    refine r_i2l dX12_setJob_14 rfl ?_
    refine r_lconst (v := (nI 0).toInt64) dX12_setJob_15 (by decide) ?_
    refine r_ldc2 dX12_setJob_16 kL_108 ?_
    refine s_S3I mX12_in dX12_setJob_19 okX12_in lX12_82 npX12_in (by decide) (by decide) (by decide) (Nat.le_of_ble_eq_true rfl) (Nat.le_of_ble_eq_true rfl) (c_in2 (by decide) (by decide)) (fun x s1 hq => ?_)
    obtain ⟨rfl, rfl⟩ := hq
    refine b_ifeq (tgt := 33) dX12_setJob_22 (by decide) (fun c22 => ?_) (fun c22 => ?_)
    · refine n_const 2 dX12_setJob_33 (by decide) ?_
      refine r_goto (tgt := 38) dX12_setJob_34 (by decide) ?_
      refine a_put dX12_setJob_38 gX12_79 lysX12 rfl rfl rfl (fun s1 hs1 hf1 => ?_)
      have h3 := (congrFun hs1 3).trans pk_us
      have hM := m_R_fr hM hf1 (Or.inr (by omega))
      have hO := m_O_eq hO (m_eq_put hs1 hf1 (by decide))
      have hf := s_fr_tr hf (s_fr_w (lo' := 212) (hi' := 234) hf1 (by omega) (by omega))
      refine r_aload_n dX12_setJob_41 rfl rfl ?_
      refine s_getI dX12_setJob_42 fX12_79 lysX12 rfl h3 ?_
      refine n_ifle (tgt := 50) dX12_setJob_45 (by decide) (by omega) (fun c45 => ?_) (fun c45 => ?_)
      · exact absurd c45 (by decide)
      · refine n_const 0 dX12_setJob_48 (by decide) ?_
        refine s_iret dX12_setJob_49 rfl rfl ?_
        first
          | exact m_P_e (by unfold A_setJob; simp [*]) (by decide) h3 hM hO hf
          | exact m_P_s (by unfold A_setJob; simp [*]) h3 hM hO hf
          | exact m_P_x (by unfold A_setJob; simp [*]) h3 hM hO hf
    · obtain ⟨a, rfl, ha0, ha, ha2⟩ := iIn_n c22
      have ea := iN_n ha2
      refine r_iload_n dX12_setJob_25 rfl rfl ?_
      refine r_iload_n dX12_setJob_26 rfl rfl ?_
      refine s_S2I mX12_isJobProperty dX12_setJob_27 okX12_isJobProperty lX12_94 npX12_isJobProperty (by decide) (by decide) (by decide) (Nat.le_of_ble_eq_true rfl) (Nat.le_of_ble_eq_true rfl) (c_mIsJobProperty (by omega)) (fun x s1 hq => ?_)
      obtain ⟨rfl, rfl⟩ := hq
      refine b_ifne (tgt := 37) dX12_setJob_30 (by decide) (fun c30 => ?_) (fun c30 => ?_)
      · obtain ⟨v, rfl, hv0, hv, hv2⟩ := iIn_n c30
        have ev := iN_n hv2
        refine n_const 0 dX12_setJob_37 (by decide) ?_
        refine a_put dX12_setJob_38 gX12_79 lysX12 rfl rfl rfl (fun s1 hs1 hf1 => ?_)
        have h3 := (congrFun hs1 3).trans pk_us
        have hM := m_R_fr hM hf1 (Or.inr (by omega))
        have hO := m_O_eq hO (m_eq_put hs1 hf1 (by decide))
        have hf := s_fr_tr hf (s_fr_w (lo' := 212) (hi' := 234) hf1 (by omega) (by omega))
        refine r_aload_n dX12_setJob_41 rfl rfl ?_
        refine s_getI dX12_setJob_42 fX12_79 lysX12 rfl h3 ?_
        refine n_ifle (tgt := 50) dX12_setJob_45 (by decide) (by omega) (fun c45 => ?_) (fun c45 => ?_)
        · refine n_const 2 dX12_setJob_50 (by decide) ?_
          refine n_const 5 dX12_setJob_51 (by decide) ?_
          refine r_iload_n dX12_setJob_52 rfl rfl ?_
          refine n_mul dX12_setJob_53 ?_
          refine n_add dX12_setJob_54 ?_
          refine r_iload_n dX12_setJob_55 rfl rfl ?_
          refine n_add dX12_setJob_56 ?_
          refine r_istore dX12_setJob_57 (by decide) rfl ?_
          refine r_aload_n dX12_setJob_59 rfl rfl ?_
          refine s_getR dX12_setJob_60 fX12_9 lysX12 rfl ?_
          refine r_iload dX12_setJob_63 rfl ?_
          refine m_ld dX12_setJob_65 hM (by omega) ?_
          try simp (disch := omega) only [va_up_n, va_up_s]
          refine r_istore dX12_setJob_66 (by decide) rfl ?_
          refine r_aload_n dX12_setJob_68 rfl rfl ?_
          refine s_getR dX12_setJob_69 fX12_9 lysX12 rfl ?_
          refine r_iload dX12_setJob_72 rfl ?_
          refine r_iload_n dX12_setJob_74 rfl rfl ?_
          refine m_st dX12_setJob_75 hM (by omega) (fun s hM hf1 => ?_)
          replace hO := m_O_eq hO (m_eq_fr hf1 (by omega))
          replace h3 := (congrFun (hf1 212 (by omega)) 3).trans h3
          replace hf := s_fr_tr hf (s_fr_w hf1 (by omega) (by omega))
          refine r_iload dX12_setJob_76 rfl ?_
          refine s_iret dX12_setJob_78 rfl rfl ?_
          first
            | exact m_P_e (by unfold A_setJob; simp [*]) (by decide) h3 hM hO hf
            | exact m_P_s (by unfold A_setJob; simp [*]) h3 hM hO hf
            | exact m_P_x (by unfold A_setJob; simp [*]) h3 hM hO hf
        · exact absurd c45 (by decide)
      · refine n_const 2 dX12_setJob_33 (by decide) ?_
        refine r_goto (tgt := 38) dX12_setJob_34 (by decide) ?_
        refine a_put dX12_setJob_38 gX12_79 lysX12 rfl rfl rfl (fun s1 hs1 hf1 => ?_)
        have h3 := (congrFun hs1 3).trans pk_us
        have hM := m_R_fr hM hf1 (Or.inr (by omega))
        have hO := m_O_eq hO (m_eq_put hs1 hf1 (by decide))
        have hf := s_fr_tr hf (s_fr_w (lo' := 212) (hi' := 234) hf1 (by omega) (by omega))
        refine r_aload_n dX12_setJob_41 rfl rfl ?_
        refine s_getI dX12_setJob_42 fX12_79 lysX12 rfl h3 ?_
        refine n_ifle (tgt := 50) dX12_setJob_45 (by decide) (by omega) (fun c45 => ?_) (fun c45 => ?_)
        · exact absurd c45 (by decide)
        · refine n_const 0 dX12_setJob_48 (by decide) ?_
          refine s_iret dX12_setJob_49 rfl rfl ?_
          first
            | exact m_P_e (by unfold A_setJob; simp [*]) (by decide) h3 hM hO hf
            | exact m_P_s (by unfold A_setJob; simp [*]) h3 hM hO hf
            | exact m_P_x (by unfold A_setJob; simp [*]) h3 hM hO hf
  · refine n_const 1 dX12_setJob_9 (by decide) ?_
    refine r_goto (tgt := 38) dX12_setJob_10 (by decide) ?_
    refine a_put dX12_setJob_38 gX12_79 lysX12 rfl rfl rfl (fun s1 hs1 hf1 => ?_)
    have h3 := (congrFun hs1 3).trans pk_us
    have hM := m_R_fr hM hf1 (Or.inr (by omega))
    have hO := m_O_eq hO (m_eq_put hs1 hf1 (by decide))
    have hf := s_fr_tr hf (s_fr_w (lo' := 212) (hi' := 234) hf1 (by omega) (by omega))
    refine r_aload_n dX12_setJob_41 rfl rfl ?_
    refine s_getI dX12_setJob_42 fX12_79 lysX12 rfl h3 ?_
    refine n_ifle (tgt := 50) dX12_setJob_45 (by decide) (by omega) (fun c45 => ?_) (fun c45 => ?_)
    · exact absurd c45 (by decide)
    · refine n_const 0 dX12_setJob_48 (by decide) ?_
      refine s_iret dX12_setJob_49 rfl rfl ?_
      first
        | exact m_P_e (by unfold A_setJob; simp [*]) (by decide) h3 hM hO hf
        | exact m_P_s (by unfold A_setJob; simp [*]) h3 hM hO hf
        | exact m_P_x (by unfold A_setJob; simp [*]) h3 hM hO hf
set_option maxRecDepth 20000 in
set_option maxHeartbeats 1000000 in
theorem m_addBreakdown {G : q_G} {s : s_T} {z : z_T} (hz : z_wf z) (hM : m_R (z 0) s) (hO : m_O z s) {m a n : Int32} : s_W G mX12_addBreakdown 6 0 0 (m_P (A_addBreakdown z m a n) s) 0 (q_ent mX12_addBreakdown [.ref 212, .int m, .int a, .int n]) [] s := by
  show s_W G mX12_addBreakdown 6 0 0 _ 0 [some (.ref 212), some (.int m), some (.int a), some (.int n), none] [] s
  have hw := hz.1.1
  have hs := x_sz hw
  have hf : s_fr 212 234 s s := s_fr_rf
  refine r_aload_n dX12_addBreakdown_0 rfl rfl ?_
  refine r_iload_n dX12_addBreakdown_1 rfl rfl ?_
  refine s_S1I mX12_isMachine dX12_addBreakdown_2 okX12_isMachine lX12_122 npX12_isMachine (by decide) (by decide) (by decide) (Nat.le_of_ble_eq_true rfl) (Nat.le_of_ble_eq_true rfl) c_mIsMachine (fun x s1 hq => ?_)
  obtain ⟨rfl, rfl⟩ := hq
  refine b_ifne (tgt := 12) dX12_addBreakdown_5 (by decide) (fun c5 => ?_) (fun c5 => ?_)
  · obtain ⟨m, rfl, hm, hm2⟩ := iLt_n c5
    have em := iN_n hm2
    refine r_iload_n dX12_addBreakdown_12 rfl rfl ?_
    refine r_i2l dX12_addBreakdown_13 rfl ?_
    refine r_lconst (v := (nI 0).toInt64) dX12_addBreakdown_14 (by decide) ?_
    refine r_ldc2 dX12_addBreakdown_15 kL_138 ?_
    refine s_S3I mX12_in dX12_addBreakdown_18 okX12_in lX12_82 npX12_in (by decide) (by decide) (by decide) (Nat.le_of_ble_eq_true rfl) (Nat.le_of_ble_eq_true rfl) (c_in2 (by decide) (by decide)) (fun x s1 hq => ?_)
    obtain ⟨rfl, rfl⟩ := hq
    refine b_ifeq (tgt := 36) dX12_addBreakdown_21 (by decide) (fun c21 => ?_) (fun c21 => ?_)
    · refine n_const 2 dX12_addBreakdown_36 (by decide) ?_
      refine r_goto (tgt := 59) dX12_addBreakdown_37 (by decide) ?_
      refine a_put dX12_addBreakdown_59 gX12_79 lysX12 rfl rfl rfl (fun s1 hs1 hf1 => ?_)
      have h3 := (congrFun hs1 3).trans pk_us
      have hM := m_R_fr hM hf1 (Or.inr (by omega))
      have hO := m_O_eq hO (m_eq_put hs1 hf1 (by decide))
      have hf := s_fr_tr hf (s_fr_w (lo' := 212) (hi' := 234) hf1 (by omega) (by omega))
      refine r_aload_n dX12_addBreakdown_62 rfl rfl ?_
      refine s_getI dX12_addBreakdown_63 fX12_79 lysX12 rfl h3 ?_
      refine n_ifle (tgt := 71) dX12_addBreakdown_66 (by decide) (by omega) (fun c66 => ?_) (fun c66 => ?_)
      · exact absurd c66 (by decide)
      · refine n_const 0 dX12_addBreakdown_69 (by decide) ?_
        refine s_iret dX12_addBreakdown_70 rfl rfl ?_
        first
          | exact m_P_e (by unfold A_addBreakdown; simp [*, x_addBr]) (by decide) h3 hM hO hf
          | exact m_P_s (by unfold A_addBreakdown; simp [*, x_addBr]) h3 hM hO hf
          | exact m_P_x (by unfold A_addBreakdown; simp [*, x_addBr]) h3 hM hO hf
    · obtain ⟨a, rfl, ha0, ha, ha2⟩ := iIn_n c21
      have ea := iN_n ha2
      refine r_iload_n dX12_addBreakdown_24 rfl rfl ?_
      refine r_i2l dX12_addBreakdown_25 rfl ?_
      refine r_lconst (v := (nI 1).toInt64) dX12_addBreakdown_26 (by decide) ?_
      refine r_ldc2 dX12_addBreakdown_27 kL_140 ?_
      refine s_S3I mX12_in dX12_addBreakdown_30 okX12_in lX12_82 npX12_in (by decide) (by decide) (by decide) (Nat.le_of_ble_eq_true rfl) (Nat.le_of_ble_eq_true rfl) (c_in2 (by decide) (by decide)) (fun x s1 hq => ?_)
      obtain ⟨rfl, rfl⟩ := hq
      refine b_ifne (tgt := 40) dX12_addBreakdown_33 (by decide) (fun c33 => ?_) (fun c33 => ?_)
      · obtain ⟨n, rfl, hn0, hn, hn2⟩ := iIn_n c33
        have en := iN_n hn2
        have hmn := x_mn hw hm
        refine r_aload_n dX12_addBreakdown_40 rfl rfl ?_
        refine s_getR dX12_addBreakdown_41 fX12_9 lysX12 rfl ?_
        refine n_sip 151 dX12_addBreakdown_44 (by decide) ?_
        refine r_iload_n dX12_addBreakdown_47 rfl rfl ?_
        refine n_add dX12_addBreakdown_48 ?_
        refine m_ld dX12_addBreakdown_49 hM (by omega) ?_
        try simp (disch := omega) only [va_up_n, va_up_s]
        refine n_const 3 dX12_addBreakdown_50 (by decide) ?_
        refine n_cne (tgt := 58) dX12_addBreakdown_51 (by decide) (by omega) (by omega) (fun c51 => ?_) (fun c51 => ?_)
        · refine n_const 0 dX12_addBreakdown_58 (by decide) ?_
          refine a_put dX12_addBreakdown_59 gX12_79 lysX12 rfl rfl rfl (fun s1 hs1 hf1 => ?_)
          have h3 := (congrFun hs1 3).trans pk_us
          have hM := m_R_fr hM hf1 (Or.inr (by omega))
          have hO := m_O_eq hO (m_eq_put hs1 hf1 (by decide))
          have hf := s_fr_tr hf (s_fr_w (lo' := 212) (hi' := 234) hf1 (by omega) (by omega))
          refine r_aload_n dX12_addBreakdown_62 rfl rfl ?_
          refine s_getI dX12_addBreakdown_63 fX12_79 lysX12 rfl h3 ?_
          refine n_ifle (tgt := 71) dX12_addBreakdown_66 (by decide) (by omega) (fun c66 => ?_) (fun c66 => ?_)
          · refine n_const 3 dX12_addBreakdown_71 (by decide) ?_
            refine r_iload_n dX12_addBreakdown_72 rfl rfl ?_
            refine n_mul dX12_addBreakdown_73 ?_
            refine r_aload_n dX12_addBreakdown_74 rfl rfl ?_
            refine s_getR dX12_addBreakdown_75 fX12_9 lysX12 rfl ?_
            refine n_sip 151 dX12_addBreakdown_78 (by decide) ?_
            refine r_iload_n dX12_addBreakdown_81 rfl rfl ?_
            refine n_add dX12_addBreakdown_82 ?_
            refine m_ld dX12_addBreakdown_83 hM (by omega) ?_
            try simp (disch := omega) only [va_up_n, va_up_s]
            refine n_add dX12_addBreakdown_84 ?_
            refine r_istore dX12_addBreakdown_85 (by decide) rfl ?_
            refine r_aload_n dX12_addBreakdown_87 rfl rfl ?_
            refine s_getR dX12_addBreakdown_88 fX12_9 lysX12 rfl ?_
            refine n_sip 155 dX12_addBreakdown_91 (by decide) ?_
            refine r_iload dX12_addBreakdown_94 rfl ?_
            refine n_add dX12_addBreakdown_96 ?_
            refine r_iload_n dX12_addBreakdown_97 rfl rfl ?_
            refine m_st dX12_addBreakdown_98 hM (by omega) (fun s hM hf1 => ?_)
            replace hO := m_O_eq hO (m_eq_fr hf1 (by omega))
            replace h3 := (congrFun (hf1 212 (by omega)) 3).trans h3
            replace hf := s_fr_tr hf (s_fr_w hf1 (by omega) (by omega))
            refine r_aload_n dX12_addBreakdown_99 rfl rfl ?_
            refine s_getR dX12_addBreakdown_100 fX12_9 lysX12 rfl ?_
            refine n_sip 167 dX12_addBreakdown_103 (by decide) ?_
            refine r_iload dX12_addBreakdown_106 rfl ?_
            refine n_add dX12_addBreakdown_108 ?_
            refine r_iload_n dX12_addBreakdown_109 rfl rfl ?_
            refine m_st dX12_addBreakdown_110 hM (by omega) (fun s hM hf1 => ?_)
            replace hO := m_O_eq hO (m_eq_fr hf1 (by omega))
            replace h3 := (congrFun (hf1 212 (by omega)) 3).trans h3
            replace hf := s_fr_tr hf (s_fr_w hf1 (by omega) (by omega))
            refine r_aload_n dX12_addBreakdown_111 rfl rfl ?_
            refine s_getR dX12_addBreakdown_112 fX12_9 lysX12 rfl ?_
            refine n_sip 151 dX12_addBreakdown_115 (by decide) ?_
            refine r_iload_n dX12_addBreakdown_118 rfl rfl ?_
            refine n_add dX12_addBreakdown_119 ?_
            refine r_dup2 dX12_addBreakdown_120 rfl rfl ?_
            refine m_ld dX12_addBreakdown_121 hM (by omega) ?_
            try simp (disch := omega) only [va_up_n, va_up_s]
            refine n_const 1 dX12_addBreakdown_122 (by decide) ?_
            refine n_add dX12_addBreakdown_123 ?_
            refine m_st dX12_addBreakdown_124 hM (by omega) (fun s hM hf1 => ?_)
            replace hO := m_O_eq hO (m_eq_fr hf1 (by omega))
            replace h3 := (congrFun (hf1 212 (by omega)) 3).trans h3
            replace hf := s_fr_tr hf (s_fr_w hf1 (by omega) (by omega))
            refine r_aload_n dX12_addBreakdown_125 rfl rfl ?_
            refine s_getR dX12_addBreakdown_126 fX12_9 lysX12 rfl ?_
            refine n_sip 151 dX12_addBreakdown_129 (by decide) ?_
            refine r_iload_n dX12_addBreakdown_132 rfl rfl ?_
            refine n_add dX12_addBreakdown_133 ?_
            refine m_ld dX12_addBreakdown_134 hM (by omega) ?_
            try simp (disch := omega) only [va_up_n, va_up_s]
            refine s_iret dX12_addBreakdown_135 rfl rfl ?_
            first
              | exact m_P_e (by unfold A_addBreakdown; simp [*, x_addBr]) (by decide) h3 hM hO hf
              | exact m_P_s (by unfold A_addBreakdown; simp [*, x_addBr]) h3 hM hO hf
              | exact m_P_x (by unfold A_addBreakdown; simp [*, x_addBr]) h3 hM hO hf
          · exact absurd c66 (by decide)
        · refine n_const 3 dX12_addBreakdown_54 (by decide) ?_
          refine r_goto (tgt := 59) dX12_addBreakdown_55 (by decide) ?_
          refine a_put dX12_addBreakdown_59 gX12_79 lysX12 rfl rfl rfl (fun s1 hs1 hf1 => ?_)
          have h3 := (congrFun hs1 3).trans pk_us
          have hM := m_R_fr hM hf1 (Or.inr (by omega))
          have hO := m_O_eq hO (m_eq_put hs1 hf1 (by decide))
          have hf := s_fr_tr hf (s_fr_w (lo' := 212) (hi' := 234) hf1 (by omega) (by omega))
          refine r_aload_n dX12_addBreakdown_62 rfl rfl ?_
          refine s_getI dX12_addBreakdown_63 fX12_79 lysX12 rfl h3 ?_
          refine n_ifle (tgt := 71) dX12_addBreakdown_66 (by decide) (by omega) (fun c66 => ?_) (fun c66 => ?_)
          · exact absurd c66 (by decide)
          · refine n_const 0 dX12_addBreakdown_69 (by decide) ?_
            refine s_iret dX12_addBreakdown_70 rfl rfl ?_
            first
              | exact m_P_e (by unfold A_addBreakdown; simp [*, x_addBr]) (by decide) h3 hM hO hf
              | exact m_P_s (by unfold A_addBreakdown; simp [*, x_addBr]) h3 hM hO hf
              | exact m_P_x (by unfold A_addBreakdown; simp [*, x_addBr]) h3 hM hO hf
      · refine n_const 2 dX12_addBreakdown_36 (by decide) ?_
        refine r_goto (tgt := 59) dX12_addBreakdown_37 (by decide) ?_
        refine a_put dX12_addBreakdown_59 gX12_79 lysX12 rfl rfl rfl (fun s1 hs1 hf1 => ?_)
        have h3 := (congrFun hs1 3).trans pk_us
        have hM := m_R_fr hM hf1 (Or.inr (by omega))
        have hO := m_O_eq hO (m_eq_put hs1 hf1 (by decide))
        have hf := s_fr_tr hf (s_fr_w (lo' := 212) (hi' := 234) hf1 (by omega) (by omega))
        refine r_aload_n dX12_addBreakdown_62 rfl rfl ?_
        refine s_getI dX12_addBreakdown_63 fX12_79 lysX12 rfl h3 ?_
        refine n_ifle (tgt := 71) dX12_addBreakdown_66 (by decide) (by omega) (fun c66 => ?_) (fun c66 => ?_)
        · exact absurd c66 (by decide)
        · refine n_const 0 dX12_addBreakdown_69 (by decide) ?_
          refine s_iret dX12_addBreakdown_70 rfl rfl ?_
          first
            | exact m_P_e (by unfold A_addBreakdown; simp [*, x_addBr]) (by decide) h3 hM hO hf
            | exact m_P_s (by unfold A_addBreakdown; simp [*, x_addBr]) h3 hM hO hf
            | exact m_P_x (by unfold A_addBreakdown; simp [*, x_addBr]) h3 hM hO hf
  · refine n_const 1 dX12_addBreakdown_8 (by decide) ?_
    refine r_goto (tgt := 59) dX12_addBreakdown_9 (by decide) ?_
    refine a_put dX12_addBreakdown_59 gX12_79 lysX12 rfl rfl rfl (fun s1 hs1 hf1 => ?_)
    have h3 := (congrFun hs1 3).trans pk_us
    have hM := m_R_fr hM hf1 (Or.inr (by omega))
    have hO := m_O_eq hO (m_eq_put hs1 hf1 (by decide))
    have hf := s_fr_tr hf (s_fr_w (lo' := 212) (hi' := 234) hf1 (by omega) (by omega))
    refine r_aload_n dX12_addBreakdown_62 rfl rfl ?_
    refine s_getI dX12_addBreakdown_63 fX12_79 lysX12 rfl h3 ?_
    refine n_ifle (tgt := 71) dX12_addBreakdown_66 (by decide) (by omega) (fun c66 => ?_) (fun c66 => ?_)
    · exact absurd c66 (by decide)
    · refine n_const 0 dX12_addBreakdown_69 (by decide) ?_
      refine s_iret dX12_addBreakdown_70 rfl rfl ?_
      first
        | exact m_P_e (by unfold A_addBreakdown; simp [*, x_addBr]) (by decide) h3 hM hO hf
        | exact m_P_s (by unfold A_addBreakdown; simp [*, x_addBr]) h3 hM hO hf
        | exact m_P_x (by unfold A_addBreakdown; simp [*, x_addBr]) h3 hM hO hf
set_option maxRecDepth 20000 in
set_option maxHeartbeats 1000000 in
theorem m_clearBreakdowns {G : q_G} {s : s_T} {z : z_T} (hz : z_wf z) (hM : m_R (z 0) s) (hO : m_O z s) {m : Int32} : s_W G mX12_clearBreakdowns 6 0 0 (m_P (A_clearBreakdowns z m) s) 0 (q_ent mX12_clearBreakdowns [.ref 212, .int m]) [] s := by
  show s_W G mX12_clearBreakdowns 6 0 0 _ 0 [some (.ref 212), some (.int m), none] [] s
  have hw := hz.1.1
  have hs := x_sz hw
  have hf : s_fr 212 234 s s := s_fr_rf
  refine r_aload_n dX12_clearBreakdowns_0 rfl rfl ?_
  refine r_iload_n dX12_clearBreakdowns_1 rfl rfl ?_
  refine s_S1I mX12_isMachine dX12_clearBreakdowns_2 okX12_isMachine lX12_122 npX12_isMachine (by decide) (by decide) (by decide) (Nat.le_of_ble_eq_true rfl) (Nat.le_of_ble_eq_true rfl) c_mIsMachine (fun x s1 hq => ?_)
  obtain ⟨rfl, rfl⟩ := hq
  refine b_ifeq (tgt := 12) dX12_clearBreakdowns_5 (by decide) (fun c5 => ?_) (fun c5 => ?_)
  · refine n_const 1 dX12_clearBreakdowns_12 (by decide) ?_
    refine a_put dX12_clearBreakdowns_13 gX12_79 lysX12 rfl rfl rfl (fun s1 hs1 hf1 => ?_)
    have h3 := (congrFun hs1 3).trans pk_us
    have hM := m_R_fr hM hf1 (Or.inr (by omega))
    have hO := m_O_eq hO (m_eq_put hs1 hf1 (by decide))
    have hf := s_fr_tr hf (s_fr_w (lo' := 212) (hi' := 234) hf1 (by omega) (by omega))
    refine r_aload_n dX12_clearBreakdowns_16 rfl rfl ?_
    refine s_getI dX12_clearBreakdowns_17 fX12_79 lysX12 rfl h3 ?_
    refine n_ifle (tgt := 25) dX12_clearBreakdowns_20 (by decide) (by omega) (fun c20 => ?_) (fun c20 => ?_)
    · exact absurd c20 (by decide)
    · refine n_const 0 dX12_clearBreakdowns_23 (by decide) ?_
      refine s_iret dX12_clearBreakdowns_24 rfl rfl ?_
      first
        | exact m_P_e (by unfold A_clearBreakdowns; simp [*]) (by decide) h3 hM hO hf
        | exact m_P_s (by unfold A_clearBreakdowns; simp [*]) h3 hM hO hf
        | exact m_P_x (by unfold A_clearBreakdowns; simp [*]) h3 hM hO hf
  · obtain ⟨m, rfl, hm, hm2⟩ := iLt_n c5
    have em := iN_n hm2
    refine n_const 0 dX12_clearBreakdowns_8 (by decide) ?_
    refine r_goto (tgt := 13) dX12_clearBreakdowns_9 (by decide) ?_
    refine a_put dX12_clearBreakdowns_13 gX12_79 lysX12 rfl rfl rfl (fun s1 hs1 hf1 => ?_)
    have h3 := (congrFun hs1 3).trans pk_us
    have hM := m_R_fr hM hf1 (Or.inr (by omega))
    have hO := m_O_eq hO (m_eq_put hs1 hf1 (by decide))
    have hf := s_fr_tr hf (s_fr_w (lo' := 212) (hi' := 234) hf1 (by omega) (by omega))
    refine r_aload_n dX12_clearBreakdowns_16 rfl rfl ?_
    refine s_getI dX12_clearBreakdowns_17 fX12_79 lysX12 rfl h3 ?_
    refine n_ifle (tgt := 25) dX12_clearBreakdowns_20 (by decide) (by omega) (fun c20 => ?_) (fun c20 => ?_)
    · refine r_aload_n dX12_clearBreakdowns_25 rfl rfl ?_
      refine s_getR dX12_clearBreakdowns_26 fX12_9 lysX12 rfl ?_
      refine n_sip 151 dX12_clearBreakdowns_29 (by decide) ?_
      refine r_iload_n dX12_clearBreakdowns_32 rfl rfl ?_
      refine n_add dX12_clearBreakdowns_33 ?_
      refine m_ld dX12_clearBreakdowns_34 hM (by omega) ?_
      try simp (disch := omega) only [va_up_n, va_up_s]
      refine r_istore_n dX12_clearBreakdowns_35 rfl (by decide) rfl ?_
      refine r_aload_n dX12_clearBreakdowns_36 rfl rfl ?_
      refine s_getR dX12_clearBreakdowns_37 fX12_9 lysX12 rfl ?_
      refine n_sip 151 dX12_clearBreakdowns_40 (by decide) ?_
      refine r_iload_n dX12_clearBreakdowns_43 rfl rfl ?_
      refine n_add dX12_clearBreakdowns_44 ?_
      refine n_const 0 dX12_clearBreakdowns_45 (by decide) ?_
      refine m_st dX12_clearBreakdowns_46 hM (by omega) (fun s hM hf1 => ?_)
      replace hO := m_O_eq hO (m_eq_fr hf1 (by omega))
      replace h3 := (congrFun (hf1 212 (by omega)) 3).trans h3
      replace hf := s_fr_tr hf (s_fr_w hf1 (by omega) (by omega))
      refine r_iload_n dX12_clearBreakdowns_47 rfl rfl ?_
      refine s_iret dX12_clearBreakdowns_48 rfl rfl ?_
      first
        | exact m_P_e (by unfold A_clearBreakdowns; simp [*]) (by decide) h3 hM hO hf
        | exact m_P_s (by unfold A_clearBreakdowns; simp [*]) h3 hM hO hf
        | exact m_P_x (by unfold A_clearBreakdowns; simp [*]) h3 hM hO hf
    · exact absurd c20 (by decide)
set_option maxRecDepth 20000 in
set_option maxHeartbeats 1000000 in
theorem m_count {G : q_G} {s : s_T} {z : z_T} (hz : z_wf z) (hM : m_R (z 0) s) (hO : m_O z s) {a : Int32} : s_W G mX12_count 6 0 0 (m_P (A_count z a) s) 0 (q_ent mX12_count [.ref 212, .int a]) [] s := by
  show s_W G mX12_count 6 0 0 _ 0 [some (.ref 212), some (.int a)] [] s
  have hw := hz.1.1
  have hs := x_sz hw
  have hf : s_fr 212 234 s s := s_fr_rf
  refine r_aload_n dX12_count_0 rfl rfl ?_
  refine r_iload_n dX12_count_1 rfl rfl ?_
  refine r_i2l dX12_count_2 rfl ?_
  refine r_lconst (v := (nI 0).toInt64) dX12_count_3 (by decide) ?_
  refine r_lconst (v := (nI 1).toInt64) dX12_count_4 (by decide) ?_
  refine s_S3I mX12_in dX12_count_5 okX12_in lX12_82 npX12_in (by decide) (by decide) (by decide) (Nat.le_of_ble_eq_true rfl) (Nat.le_of_ble_eq_true rfl) (c_in2 (by decide) (by decide)) (fun x s1 hq => ?_)
  obtain ⟨rfl, rfl⟩ := hq
  refine b_ifeq (tgt := 15) dX12_count_8 (by decide) (fun c8 => ?_) (fun c8 => ?_)
  · refine n_const 1 dX12_count_15 (by decide) ?_
    refine a_put dX12_count_16 gX12_79 lysX12 rfl rfl rfl (fun s1 hs1 hf1 => ?_)
    have h3 := (congrFun hs1 3).trans pk_us
    have hM := m_R_fr hM hf1 (Or.inr (by omega))
    have hO := m_O_eq hO (m_eq_put hs1 hf1 (by decide))
    have hf := s_fr_tr hf (s_fr_w (lo' := 212) (hi' := 234) hf1 (by omega) (by omega))
    refine r_aload_n dX12_count_19 rfl rfl ?_
    refine s_getI dX12_count_20 fX12_79 lysX12 rfl h3 ?_
    refine n_ifle (tgt := 30) dX12_count_23 (by decide) (by omega) (fun c23 => ?_) (fun c23 => ?_)
    · exact absurd c23 (by decide)
    · refine n_const 0 dX12_count_26 (by decide) ?_
      refine r_goto (tgt := 36) dX12_count_27 (by decide) ?_
      refine s_iret dX12_count_36 rfl rfl ?_
      first
        | exact m_P_e (by unfold A_count; simp [*]) (by decide) h3 hM hO hf
        | exact m_P_s (by unfold A_count; simp [*]) h3 hM hO hf
        | exact m_P_x (by unfold A_count; simp [*]) h3 hM hO hf
  · obtain ⟨a, rfl, ha0, ha, ha2⟩ := iIn_n c8
    have ea := iN_n ha2
    refine n_const 0 dX12_count_11 (by decide) ?_
    refine r_goto (tgt := 16) dX12_count_12 (by decide) ?_
    refine a_put dX12_count_16 gX12_79 lysX12 rfl rfl rfl (fun s1 hs1 hf1 => ?_)
    have h3 := (congrFun hs1 3).trans pk_us
    have hM := m_R_fr hM hf1 (Or.inr (by omega))
    have hO := m_O_eq hO (m_eq_put hs1 hf1 (by decide))
    have hf := s_fr_tr hf (s_fr_w (lo' := 212) (hi' := 234) hf1 (by omega) (by omega))
    refine r_aload_n dX12_count_19 rfl rfl ?_
    refine s_getI dX12_count_20 fX12_79 lysX12 rfl h3 ?_
    refine n_ifle (tgt := 30) dX12_count_23 (by decide) (by omega) (fun c23 => ?_) (fun c23 => ?_)
    · refine r_aload_n dX12_count_30 rfl rfl ?_
      refine s_getR dX12_count_31 fX12_9 lysX12 rfl ?_
      refine r_iload_n dX12_count_34 rfl rfl ?_
      refine m_ld dX12_count_35 hM (by omega) ?_
      try simp (disch := omega) only [va_up_n, va_up_s]
      refine s_iret dX12_count_36 rfl rfl ?_
      first
        | exact m_P_e (by unfold A_count; simp [*]) (by decide) h3 hM hO hf
        | exact m_P_s (by unfold A_count; simp [*]) h3 hM hO hf
        | exact m_P_x (by unfold A_count; simp [*]) h3 hM hO hf
    · exact absurd c23 (by decide)
set_option maxRecDepth 20000 in
set_option maxHeartbeats 1000000 in
theorem m_property {G : q_G} {s : s_T} {z : z_T} (hz : z_wf z) (hM : m_R (z 0) s) (hO : m_O z s) {k a : Int32} : s_W G mX12_property 6 0 0 (m_P (A_property z k a) s) 0 (q_ent mX12_property [.ref 212, .int k, .int a]) [] s := by
  show s_W G mX12_property 6 0 0 _ 0 [some (.ref 212), some (.int k), some (.int a)] [] s
  have hw := hz.1.1
  have hs := x_sz hw
  have hf : s_fr 212 234 s s := s_fr_rf
  refine r_aload_n dX12_property_0 rfl rfl ?_
  refine r_aload_n dX12_property_1 rfl rfl ?_
  refine r_iload_n dX12_property_2 rfl rfl ?_
  refine s_V1I mX12_isOperation dX12_property_3 okX12_isOperation lX12_135 npX12_isOperation lysX12 rfl (by decide) (by decide) (by decide) (Nat.le_of_ble_eq_true rfl) (Nat.le_of_ble_eq_true rfl) (c_mIsOperation hM hw) (fun x s1 hq => ?_)
  obtain ⟨rfl, rfl⟩ := hq
  refine b_ifne (tgt := 13) dX12_property_6 (by decide) (fun c6 => ?_) (fun c6 => ?_)
  · obtain ⟨k, rfl, hk, hk2⟩ := iLt_n c6
    have ek := iN_n hk2
    refine r_iload_n dX12_property_13 rfl rfl ?_
    refine r_i2l dX12_property_14 rfl ?_
    refine r_lconst (v := (nI 0).toInt64) dX12_property_15 (by decide) ?_
    refine r_ldc2 dX12_property_16 kL_145 ?_
    refine s_S3I mX12_in dX12_property_19 okX12_in lX12_82 npX12_in (by decide) (by decide) (by decide) (Nat.le_of_ble_eq_true rfl) (Nat.le_of_ble_eq_true rfl) (c_in2 (by decide) (by decide)) (fun x s1 hq => ?_)
    obtain ⟨rfl, rfl⟩ := hq
    refine b_ifne (tgt := 29) dX12_property_22 (by decide) (fun c22 => ?_) (fun c22 => ?_)
    · obtain ⟨a, rfl, ha0, ha, ha2⟩ := iIn_n c22
      have ea := iN_n ha2
      refine n_const 0 dX12_property_29 (by decide) ?_
      refine a_put dX12_property_30 gX12_79 lysX12 rfl rfl rfl (fun s1 hs1 hf1 => ?_)
      have h3 := (congrFun hs1 3).trans pk_us
      have hM := m_R_fr hM hf1 (Or.inr (by omega))
      have hO := m_O_eq hO (m_eq_put hs1 hf1 (by decide))
      have hf := s_fr_tr hf (s_fr_w (lo' := 212) (hi' := 234) hf1 (by omega) (by omega))
      refine r_aload_n dX12_property_33 rfl rfl ?_
      refine s_getI dX12_property_34 fX12_79 lysX12 rfl h3 ?_
      refine n_ifle (tgt := 42) dX12_property_37 (by decide) (by omega) (fun c37 => ?_) (fun c37 => ?_)
      · refine r_iload_n dX12_property_42 rfl rfl ?_
        refine n_const 5 dX12_property_43 (by decide) ?_
        refine n_cne (tgt := 55) dX12_property_44 (by decide) (by omega) (by omega) (fun c44 => ?_) (fun c44 => ?_)
        · refine r_aload_n dX12_property_55 rfl rfl ?_
          refine s_getR dX12_property_56 fX12_9 lysX12 rfl ?_
          refine n_bip 42 dX12_property_59 (by decide) ?_
          refine n_bip 20 dX12_property_61 (by decide) ?_
          refine r_iload_n dX12_property_63 rfl rfl ?_
          refine n_mul dX12_property_64 ?_
          refine n_add dX12_property_65 ?_
          refine r_iload_n dX12_property_66 rfl rfl ?_
          refine n_add dX12_property_67 ?_
          refine m_ld dX12_property_68 hM (by omega) ?_
          try simp (disch := omega) only [va_up_n, va_up_s]
          refine s_iret dX12_property_69 rfl rfl ?_
          first
            | exact m_P_e (by unfold A_property; simp [*, show iN (nI 5) = 5 by decide, show iIn (nI 5) 0 5 = true by decide]) (by decide) h3 hM hO hf
            | exact m_P_s (by unfold A_property; simp [*, show iN (nI 5) = 5 by decide, show iIn (nI 5) 0 5 = true by decide]) h3 hM hO hf
            | exact m_P_x (by unfold A_property; simp [*, show iN (nI 5) = 5 by decide, show iIn (nI 5) 0 5 = true by decide]) h3 hM hO hf
        · refine r_aload_n dX12_property_47 rfl rfl ?_
          refine r_iload_n dX12_property_48 rfl rfl ?_
          refine s_V1I mX12_positionOf dX12_property_49 okX12_positionOf lX12_147 npX12_positionOf lysX12 rfl (by decide) (by decide) (by decide) (Nat.le_of_ble_eq_true rfl) (Nat.le_of_ble_eq_true rfl) (c_mPositionOf hM hw (by omega) (x_po_ok hw (by omega)).1 (x_po_ok hw (by omega)).2) (fun x s1 hq => ?_)
          obtain ⟨rfl, rfl⟩ := hq
          refine r_goto (tgt := 69) dX12_property_52 (by decide) ?_
          refine s_iret dX12_property_69 rfl rfl ?_
          first
            | exact m_P_e (by unfold A_property; simp [*, show iN (nI 5) = 5 by decide, show iIn (nI 5) 0 5 = true by decide]) (by decide) h3 hM hO hf
            | exact m_P_s (by unfold A_property; simp [*, show iN (nI 5) = 5 by decide, show iIn (nI 5) 0 5 = true by decide]) h3 hM hO hf
            | exact m_P_x (by unfold A_property; simp [*, show iN (nI 5) = 5 by decide, show iIn (nI 5) 0 5 = true by decide]) h3 hM hO hf
      · exact absurd c37 (by decide)
    · refine n_const 2 dX12_property_25 (by decide) ?_
      refine r_goto (tgt := 30) dX12_property_26 (by decide) ?_
      refine a_put dX12_property_30 gX12_79 lysX12 rfl rfl rfl (fun s1 hs1 hf1 => ?_)
      have h3 := (congrFun hs1 3).trans pk_us
      have hM := m_R_fr hM hf1 (Or.inr (by omega))
      have hO := m_O_eq hO (m_eq_put hs1 hf1 (by decide))
      have hf := s_fr_tr hf (s_fr_w (lo' := 212) (hi' := 234) hf1 (by omega) (by omega))
      refine r_aload_n dX12_property_33 rfl rfl ?_
      refine s_getI dX12_property_34 fX12_79 lysX12 rfl h3 ?_
      refine n_ifle (tgt := 42) dX12_property_37 (by decide) (by omega) (fun c37 => ?_) (fun c37 => ?_)
      · exact absurd c37 (by decide)
      · refine n_const 0 dX12_property_40 (by decide) ?_
        refine s_iret dX12_property_41 rfl rfl ?_
        first
          | exact m_P_e (by unfold A_property; simp [*, show iN (nI 5) = 5 by decide, show iIn (nI 5) 0 5 = true by decide]) (by decide) h3 hM hO hf
          | exact m_P_s (by unfold A_property; simp [*, show iN (nI 5) = 5 by decide, show iIn (nI 5) 0 5 = true by decide]) h3 hM hO hf
          | exact m_P_x (by unfold A_property; simp [*, show iN (nI 5) = 5 by decide, show iIn (nI 5) 0 5 = true by decide]) h3 hM hO hf
  · refine n_const 1 dX12_property_9 (by decide) ?_
    refine r_goto (tgt := 30) dX12_property_10 (by decide) ?_
    refine a_put dX12_property_30 gX12_79 lysX12 rfl rfl rfl (fun s1 hs1 hf1 => ?_)
    have h3 := (congrFun hs1 3).trans pk_us
    have hM := m_R_fr hM hf1 (Or.inr (by omega))
    have hO := m_O_eq hO (m_eq_put hs1 hf1 (by decide))
    have hf := s_fr_tr hf (s_fr_w (lo' := 212) (hi' := 234) hf1 (by omega) (by omega))
    refine r_aload_n dX12_property_33 rfl rfl ?_
    refine s_getI dX12_property_34 fX12_79 lysX12 rfl h3 ?_
    refine n_ifle (tgt := 42) dX12_property_37 (by decide) (by omega) (fun c37 => ?_) (fun c37 => ?_)
    · exact absurd c37 (by decide)
    · refine n_const 0 dX12_property_40 (by decide) ?_
      refine s_iret dX12_property_41 rfl rfl ?_
      first
        | exact m_P_e (by unfold A_property; simp [*, show iN (nI 5) = 5 by decide, show iIn (nI 5) 0 5 = true by decide]) (by decide) h3 hM hO hf
        | exact m_P_s (by unfold A_property; simp [*, show iN (nI 5) = 5 by decide, show iIn (nI 5) 0 5 = true by decide]) h3 hM hO hf
        | exact m_P_x (by unfold A_property; simp [*, show iN (nI 5) = 5 by decide, show iIn (nI 5) 0 5 = true by decide]) h3 hM hO hf
set_option maxRecDepth 20000 in
set_option maxHeartbeats 1000000 in
theorem m_order {G : q_G} {s : s_T} {z : z_T} (hz : z_wf z) (hM : m_R (z 0) s) (hO : m_O z s) {m p : Int32} : s_W G mX12_order 6 0 0 (m_P (A_order z m p) s) 0 (q_ent mX12_order [.ref 212, .int m, .int p]) [] s := by
  show s_W G mX12_order 6 0 0 _ 0 [some (.ref 212), some (.int m), some (.int p)] [] s
  have hw := hz.1.1
  have hs := x_sz hw
  have hf : s_fr 212 234 s s := s_fr_rf
  refine r_aload_n dX12_order_0 rfl rfl ?_
  refine r_iload_n dX12_order_1 rfl rfl ?_
  refine s_S1I mX12_isMachine dX12_order_2 okX12_isMachine lX12_122 npX12_isMachine (by decide) (by decide) (by decide) (Nat.le_of_ble_eq_true rfl) (Nat.le_of_ble_eq_true rfl) c_mIsMachine (fun x s1 hq => ?_)
  obtain ⟨rfl, rfl⟩ := hq
  refine b_ifne (tgt := 12) dX12_order_5 (by decide) (fun c5 => ?_) (fun c5 => ?_)
  · obtain ⟨m, rfl, hm, hm2⟩ := iLt_n c5
    have em := iN_n hm2
    refine r_iload_n dX12_order_12 rfl rfl ?_
    refine r_i2l dX12_order_13 rfl ?_
    refine r_lconst (v := (nI 0).toInt64) dX12_order_14 (by decide) ?_
    refine r_aload_n dX12_order_15 rfl rfl ?_
    refine s_getR dX12_order_16 fX12_9 lysX12 rfl ?_
    refine n_sip 179 dX12_order_19 (by decide) ?_
    refine r_iload_n dX12_order_22 rfl rfl ?_
    refine n_add dX12_order_23 ?_
    refine m_ld dX12_order_24 hM (by omega) ?_
    try simp (disch := omega) only [va_up_n, va_up_s]
    refine n_const 1 dX12_order_25 (by decide) ?_
    refine r_isub dX12_order_26 ?_
    refine r_i2l dX12_order_27 rfl ?_
    refine s_S3I mX12_in dX12_order_28 okX12_in lX12_82 npX12_in (by decide) (by decide) (by decide) (Nat.le_of_ble_eq_true rfl) (Nat.le_of_ble_eq_true rfl) (c_in3 (by have := x_mn hw hm; omega)) (fun x s1 hq => ?_)
    obtain ⟨rfl, rfl⟩ := hq
    refine b_ifne (tgt := 38) dX12_order_31 (by decide) (fun c31 => ?_) (fun c31 => ?_)
    · obtain ⟨p, rfl, hp, hp2⟩ := iLt_n c31
      have ep := iN_n hp2
      have hmn := x_mn hw hm
      refine n_const 0 dX12_order_38 (by decide) ?_
      refine a_put dX12_order_39 gX12_79 lysX12 rfl rfl rfl (fun s1 hs1 hf1 => ?_)
      have h3 := (congrFun hs1 3).trans pk_us
      have hM := m_R_fr hM hf1 (Or.inr (by omega))
      have hO := m_O_eq hO (m_eq_put hs1 hf1 (by decide))
      have hf := s_fr_tr hf (s_fr_w (lo' := 212) (hi' := 234) hf1 (by omega) (by omega))
      refine r_aload_n dX12_order_42 rfl rfl ?_
      refine s_getI dX12_order_43 fX12_79 lysX12 rfl h3 ?_
      refine n_ifle (tgt := 53) dX12_order_46 (by decide) (by omega) (fun c46 => ?_) (fun c46 => ?_)
      · refine r_aload_n dX12_order_53 rfl rfl ?_
        refine r_iload_n dX12_order_54 rfl rfl ?_
        refine r_iload_n dX12_order_55 rfl rfl ?_
        refine s_V2I mX12_ordered dX12_order_56 okX12_ordered lX12_142 npX12_ordered lysX12 rfl (by decide) (by decide) (by decide) (Nat.le_of_ble_eq_true rfl) (Nat.le_of_ble_eq_true rfl) (c_ordered hM (by omega) (by omega)) (fun x s1 hq => ?_)
        obtain ⟨rfl, rfl⟩ := hq
        refine s_iret dX12_order_59 rfl rfl ?_
        first
          | exact m_P_e (by unfold A_order; simp [*]) (by decide) h3 hM hO hf
          | exact m_P_s (by unfold A_order; simp [*]) h3 hM hO hf
          | exact m_P_x (by unfold A_order; simp [*]) h3 hM hO hf
      · exact absurd c46 (by decide)
    · refine n_const 2 dX12_order_34 (by decide) ?_
      refine r_goto (tgt := 39) dX12_order_35 (by decide) ?_
      refine a_put dX12_order_39 gX12_79 lysX12 rfl rfl rfl (fun s1 hs1 hf1 => ?_)
      have h3 := (congrFun hs1 3).trans pk_us
      have hM := m_R_fr hM hf1 (Or.inr (by omega))
      have hO := m_O_eq hO (m_eq_put hs1 hf1 (by decide))
      have hf := s_fr_tr hf (s_fr_w (lo' := 212) (hi' := 234) hf1 (by omega) (by omega))
      refine r_aload_n dX12_order_42 rfl rfl ?_
      refine s_getI dX12_order_43 fX12_79 lysX12 rfl h3 ?_
      refine n_ifle (tgt := 53) dX12_order_46 (by decide) (by omega) (fun c46 => ?_) (fun c46 => ?_)
      · exact absurd c46 (by decide)
      · refine n_const 0 dX12_order_49 (by decide) ?_
        refine r_goto (tgt := 59) dX12_order_50 (by decide) ?_
        refine s_iret dX12_order_59 rfl rfl ?_
        first
          | exact m_P_e (by unfold A_order; simp [*]) (by decide) h3 hM hO hf
          | exact m_P_s (by unfold A_order; simp [*]) h3 hM hO hf
          | exact m_P_x (by unfold A_order; simp [*]) h3 hM hO hf
  · refine n_const 1 dX12_order_8 (by decide) ?_
    refine r_goto (tgt := 39) dX12_order_9 (by decide) ?_
    refine a_put dX12_order_39 gX12_79 lysX12 rfl rfl rfl (fun s1 hs1 hf1 => ?_)
    have h3 := (congrFun hs1 3).trans pk_us
    have hM := m_R_fr hM hf1 (Or.inr (by omega))
    have hO := m_O_eq hO (m_eq_put hs1 hf1 (by decide))
    have hf := s_fr_tr hf (s_fr_w (lo' := 212) (hi' := 234) hf1 (by omega) (by omega))
    refine r_aload_n dX12_order_42 rfl rfl ?_
    refine s_getI dX12_order_43 fX12_79 lysX12 rfl h3 ?_
    refine n_ifle (tgt := 53) dX12_order_46 (by decide) (by omega) (fun c46 => ?_) (fun c46 => ?_)
    · exact absurd c46 (by decide)
    · refine n_const 0 dX12_order_49 (by decide) ?_
      refine r_goto (tgt := 59) dX12_order_50 (by decide) ?_
      refine s_iret dX12_order_59 rfl rfl ?_
      first
        | exact m_P_e (by unfold A_order; simp [*]) (by decide) h3 hM hO hf
        | exact m_P_s (by unfold A_order; simp [*]) h3 hM hO hf
        | exact m_P_x (by unfold A_order; simp [*]) h3 hM hO hf
set_option maxRecDepth 20000 in
set_option maxHeartbeats 1000000 in
theorem m_addOperation {G : q_G} {s : s_T} {z : z_T} (hz : z_wf z) (hM : m_R (z 0) s) (hO : m_O z s) {j m d f : Int32} : s_W G mX12_addOperation 6 0 0 (m_P (A_addOperation z j m d f) s) 0 (q_ent mX12_addOperation [.ref 212, .int j, .int m, .int d, .int f]) [] s := by
  show s_W G mX12_addOperation 6 0 0 _ 0 [some (.ref 212), some (.int j), some (.int m), some (.int d), some (.int f)] [] s
  have hw := hz.1.1
  have hs := x_sz hw
  have hf : s_fr 212 234 s s := s_fr_rf
  refine r_aload_n dX12_addOperation_0 rfl rfl ?_
  refine r_aload_n dX12_addOperation_1 rfl rfl ?_
  refine r_iload_n dX12_addOperation_2 rfl rfl ?_
  refine s_V1I mX12_isJob dX12_addOperation_3 okX12_isJob lX12_118 npX12_isJob lysX12 rfl (by decide) (by decide) (by decide) (Nat.le_of_ble_eq_true rfl) (Nat.le_of_ble_eq_true rfl) (c_mIsJob hM hw) (fun x s1 hq => ?_)
  obtain ⟨rfl, rfl⟩ := hq
  refine b_ifeq (tgt := 16) dX12_addOperation_6 (by decide) (fun c6 => ?_) (fun c6 => ?_)
  · refine n_const 1 dX12_addOperation_16 (by decide) ?_
    refine r_goto (tgt := 60) dX12_addOperation_17 (by decide) ?_
    refine a_put dX12_addOperation_60 gX12_79 lysX12 rfl rfl rfl (fun s1 hs1 hf1 => ?_)
    have h3 := (congrFun hs1 3).trans pk_us
    have hM := m_R_fr hM hf1 (Or.inr (by omega))
    have hO := m_O_eq hO (m_eq_put hs1 hf1 (by decide))
    have hf := s_fr_tr hf (s_fr_w (lo' := 212) (hi' := 234) hf1 (by omega) (by omega))
    refine r_aload_n dX12_addOperation_63 rfl rfl ?_
    refine s_getI dX12_addOperation_64 fX12_79 lysX12 rfl h3 ?_
    refine n_ifle (tgt := 74) dX12_addOperation_67 (by decide) (by omega) (fun c67 => ?_) (fun c67 => ?_)
    · exact absurd c67 (by decide)
    · refine n_const 0 dX12_addOperation_70 (by decide) ?_
      refine r_goto (tgt := 83) dX12_addOperation_71 (by decide) ?_
      refine s_iret dX12_addOperation_83 rfl rfl ?_
      first
        | exact m_P_e (by unfold A_addOperation; simp [*]) (by decide) h3 hM hO hf
        | exact m_P_s (by unfold A_addOperation; simp [*]) h3 hM hO hf
        | exact m_P_x (by unfold A_addOperation; simp [*]) h3 hM hO hf
  · obtain ⟨j, rfl, hj, hj2⟩ := iLt_n c6
    have ej := iN_n hj2
    refine r_iload_n dX12_addOperation_9 rfl rfl ?_
    refine s_S1I mX12_isMachine dX12_addOperation_10 okX12_isMachine lX12_122 npX12_isMachine (by decide) (by decide) (by decide) (Nat.le_of_ble_eq_true rfl) (Nat.le_of_ble_eq_true rfl) c_mIsMachine (fun x s1 hq => ?_)
    obtain ⟨rfl, rfl⟩ := hq
    refine b_ifne (tgt := 20) dX12_addOperation_13 (by decide) (fun c13 => ?_) (fun c13 => ?_)
    · obtain ⟨m, rfl, hm, hm2⟩ := iLt_n c13
      have em := iN_n hm2
      refine r_iload_n dX12_addOperation_20 rfl rfl ?_
      refine r_iload dX12_addOperation_21 rfl ?_
      refine s_S2I mX12_areProperties dX12_addOperation_23 okX12_areProperties lX12_125 npX12_areProperties (by decide) (by decide) (by decide) (Nat.le_of_ble_eq_true rfl) (Nat.le_of_ble_eq_true rfl) c_mAreProperties (fun x s1 hq => ?_)
      obtain ⟨rfl, rfl⟩ := hq
      refine b_ifne (tgt := 33) dX12_addOperation_26 (by decide) (fun c26 => ?_) (fun c26 => ?_)
      · have hjj := c26
        simp only [Bool.and_eq_true] at hjj
        obtain ⟨h1, h2⟩ := hjj
        obtain ⟨d, rfl, -, hd, hd2⟩ := iIn_n h1
        obtain ⟨f, rfl, -, hf9, hf2⟩ := iIn_n h2
        have ed := iN_n hd2
        have ef := iN_n hf2
        have hjb := x_jb hw hj
        refine r_aload_n dX12_addOperation_33 rfl rfl ?_
        refine s_getR dX12_addOperation_34 fX12_9 lysX12 rfl ?_
        refine n_bip 17 dX12_addOperation_37 (by decide) ?_
        refine r_iload_n dX12_addOperation_39 rfl rfl ?_
        refine n_add dX12_addOperation_40 ?_
        refine m_ld dX12_addOperation_41 hM (by omega) ?_
        try simp (disch := omega) only [va_up_n, va_up_s]
        refine n_const 4 dX12_addOperation_42 (by decide) ?_
        refine n_ceq (tgt := 55) dX12_addOperation_43 (by decide) (by omega) (by omega) (fun c43 => ?_) (fun c43 => ?_)
        · refine n_const 3 dX12_addOperation_55 (by decide) ?_
          refine r_goto (tgt := 60) dX12_addOperation_56 (by decide) ?_
          refine a_put dX12_addOperation_60 gX12_79 lysX12 rfl rfl rfl (fun s1 hs1 hf1 => ?_)
          have h3 := (congrFun hs1 3).trans pk_us
          have hM := m_R_fr hM hf1 (Or.inr (by omega))
          have hO := m_O_eq hO (m_eq_put hs1 hf1 (by decide))
          have hf := s_fr_tr hf (s_fr_w (lo' := 212) (hi' := 234) hf1 (by omega) (by omega))
          refine r_aload_n dX12_addOperation_63 rfl rfl ?_
          refine s_getI dX12_addOperation_64 fX12_79 lysX12 rfl h3 ?_
          refine n_ifle (tgt := 74) dX12_addOperation_67 (by decide) (by omega) (fun c67 => ?_) (fun c67 => ?_)
          · exact absurd c67 (by decide)
          · refine n_const 0 dX12_addOperation_70 (by decide) ?_
            refine r_goto (tgt := 83) dX12_addOperation_71 (by decide) ?_
            refine s_iret dX12_addOperation_83 rfl rfl ?_
            first
              | exact m_P_e (by unfold A_addOperation; simp [*]) (by decide) h3 hM hO hf
              | exact m_P_s (by unfold A_addOperation; simp [*]) h3 hM hO hf
              | exact m_P_x (by unfold A_addOperation; simp [*]) h3 hM hO hf
        · refine r_aload_n dX12_addOperation_46 rfl rfl ?_
          refine r_iload_n dX12_addOperation_47 rfl rfl ?_
          refine r_iload_n dX12_addOperation_48 rfl rfl ?_
          refine s_V2I mX12_hasMachine dX12_addOperation_49 okX12_hasMachine lX12_128 npX12_hasMachine lysX12 rfl (by decide) (by decide) (by decide) (Nat.le_of_ble_eq_true rfl) (Nat.le_of_ble_eq_true rfl) (c_hasMachine hM hw (by omega) (by omega)) (fun x s1 hq => ?_)
          obtain ⟨rfl, rfl⟩ := hq
          refine b_ifeq (tgt := 59) dX12_addOperation_52 (by decide) (fun c52 => ?_) (fun c52 => ?_)
          · refine n_const 0 dX12_addOperation_59 (by decide) ?_
            refine a_put dX12_addOperation_60 gX12_79 lysX12 rfl rfl rfl (fun s1 hs1 hf1 => ?_)
            have h3 := (congrFun hs1 3).trans pk_us
            have hM := m_R_fr hM hf1 (Or.inr (by omega))
            have hO := m_O_eq hO (m_eq_put hs1 hf1 (by decide))
            have hf := s_fr_tr hf (s_fr_w (lo' := 212) (hi' := 234) hf1 (by omega) (by omega))
            refine r_aload_n dX12_addOperation_63 rfl rfl ?_
            refine s_getI dX12_addOperation_64 fX12_79 lysX12 rfl h3 ?_
            refine n_ifle (tgt := 74) dX12_addOperation_67 (by decide) (by omega) (fun c67 => ?_) (fun c67 => ?_)
            · refine r_aload_n dX12_addOperation_74 rfl rfl ?_
              refine r_iload_n dX12_addOperation_75 rfl rfl ?_
              refine r_iload_n dX12_addOperation_76 rfl rfl ?_
              refine r_iload_n dX12_addOperation_77 rfl rfl ?_
              refine r_iload dX12_addOperation_78 rfl ?_
              refine s_V4I mX12_createOperation dX12_addOperation_80 okX12_createOperation lX12_131 npX12_createOperation lysX12 rfl (by decide) (by decide) (by decide) (Nat.le_of_ble_eq_true rfl) (Nat.le_of_ble_eq_true rfl) (c_mCreateOperation hM (by omega) (by omega) (x_room hw hj hm (by omega) c52).1 (by omega) (x_room hw hj hm (by omega) c52).2) (fun x s1 hq => ?_)
              obtain ⟨rfl, hM, hf1⟩ := hq
              replace hO := m_O_eq hO (m_eq_fr hf1 (by omega))
              replace h3 := (congrFun (hf1 212 (by omega)) 3).trans h3
              replace hf := s_fr_tr hf (s_fr_w hf1 (by omega) (by omega))
              refine s_iret dX12_addOperation_83 rfl rfl ?_
              first
                | exact m_P_e (by unfold A_addOperation; simp [*]) (by decide) h3 hM hO hf
                | exact m_P_s (by unfold A_addOperation; simp [*]) h3 hM hO hf
                | exact m_P_x (by unfold A_addOperation; simp [*]) h3 hM hO hf
            · exact absurd c67 (by decide)
          · refine n_const 3 dX12_addOperation_55 (by decide) ?_
            refine r_goto (tgt := 60) dX12_addOperation_56 (by decide) ?_
            refine a_put dX12_addOperation_60 gX12_79 lysX12 rfl rfl rfl (fun s1 hs1 hf1 => ?_)
            have h3 := (congrFun hs1 3).trans pk_us
            have hM := m_R_fr hM hf1 (Or.inr (by omega))
            have hO := m_O_eq hO (m_eq_put hs1 hf1 (by decide))
            have hf := s_fr_tr hf (s_fr_w (lo' := 212) (hi' := 234) hf1 (by omega) (by omega))
            refine r_aload_n dX12_addOperation_63 rfl rfl ?_
            refine s_getI dX12_addOperation_64 fX12_79 lysX12 rfl h3 ?_
            refine n_ifle (tgt := 74) dX12_addOperation_67 (by decide) (by omega) (fun c67 => ?_) (fun c67 => ?_)
            · exact absurd c67 (by decide)
            · refine n_const 0 dX12_addOperation_70 (by decide) ?_
              refine r_goto (tgt := 83) dX12_addOperation_71 (by decide) ?_
              refine s_iret dX12_addOperation_83 rfl rfl ?_
              first
                | exact m_P_e (by unfold A_addOperation; simp [*]) (by decide) h3 hM hO hf
                | exact m_P_s (by unfold A_addOperation; simp [*]) h3 hM hO hf
                | exact m_P_x (by unfold A_addOperation; simp [*]) h3 hM hO hf
      · refine n_const 2 dX12_addOperation_29 (by decide) ?_
        refine r_goto (tgt := 60) dX12_addOperation_30 (by decide) ?_
        refine a_put dX12_addOperation_60 gX12_79 lysX12 rfl rfl rfl (fun s1 hs1 hf1 => ?_)
        have h3 := (congrFun hs1 3).trans pk_us
        have hM := m_R_fr hM hf1 (Or.inr (by omega))
        have hO := m_O_eq hO (m_eq_put hs1 hf1 (by decide))
        have hf := s_fr_tr hf (s_fr_w (lo' := 212) (hi' := 234) hf1 (by omega) (by omega))
        refine r_aload_n dX12_addOperation_63 rfl rfl ?_
        refine s_getI dX12_addOperation_64 fX12_79 lysX12 rfl h3 ?_
        refine n_ifle (tgt := 74) dX12_addOperation_67 (by decide) (by omega) (fun c67 => ?_) (fun c67 => ?_)
        · exact absurd c67 (by decide)
        · refine n_const 0 dX12_addOperation_70 (by decide) ?_
          refine r_goto (tgt := 83) dX12_addOperation_71 (by decide) ?_
          refine s_iret dX12_addOperation_83 rfl rfl ?_
          first
            | exact m_P_e (by unfold A_addOperation; simp [*]) (by decide) h3 hM hO hf
            | exact m_P_s (by unfold A_addOperation; simp [*]) h3 hM hO hf
            | exact m_P_x (by unfold A_addOperation; simp [*]) h3 hM hO hf
    · refine n_const 1 dX12_addOperation_16 (by decide) ?_
      refine r_goto (tgt := 60) dX12_addOperation_17 (by decide) ?_
      refine a_put dX12_addOperation_60 gX12_79 lysX12 rfl rfl rfl (fun s1 hs1 hf1 => ?_)
      have h3 := (congrFun hs1 3).trans pk_us
      have hM := m_R_fr hM hf1 (Or.inr (by omega))
      have hO := m_O_eq hO (m_eq_put hs1 hf1 (by decide))
      have hf := s_fr_tr hf (s_fr_w (lo' := 212) (hi' := 234) hf1 (by omega) (by omega))
      refine r_aload_n dX12_addOperation_63 rfl rfl ?_
      refine s_getI dX12_addOperation_64 fX12_79 lysX12 rfl h3 ?_
      refine n_ifle (tgt := 74) dX12_addOperation_67 (by decide) (by omega) (fun c67 => ?_) (fun c67 => ?_)
      · exact absurd c67 (by decide)
      · refine n_const 0 dX12_addOperation_70 (by decide) ?_
        refine r_goto (tgt := 83) dX12_addOperation_71 (by decide) ?_
        refine s_iret dX12_addOperation_83 rfl rfl ?_
        first
          | exact m_P_e (by unfold A_addOperation; simp [*]) (by decide) h3 hM hO hf
          | exact m_P_s (by unfold A_addOperation; simp [*]) h3 hM hO hf
          | exact m_P_x (by unfold A_addOperation; simp [*]) h3 hM hO hf
