/-! ===== the class: makespan, time, completion, objective ===== -/
set_option maxRecDepth 20000 in
set_option maxHeartbeats 1000000 in
theorem c_presentSpan {G : q_G} {s : s_T} {z : z_T} (hz : z_wf z) (hZ : c_Z z s) : s_W G mX11_presentSpan 4 0 0 (c_I (fun y9 s1 => y9 = nI (x_s0 (z 0)) ∧ c_t0 (z 0) s1 124 ∧ c_R (z 0) s1 1 ∧ c_Z z s1 ∧ s_fr 0 212 s s1)) 0 (q_ent mX11_presentSpan [.ref 0]) [] s := by
  show s_W G mX11_presentSpan 4 0 0 _ 0 [some (.ref 0)] [] s
  have hw := hz.1.1
  have hs := x_sz hw
  have hC := hZ.1
  have hf : s_fr 0 212 s s := s_fr_rf
  have ho : isX7 1 := Or.inl rfl
  refine r_aload_n dX11_presentSpan_0 rfl rfl ?_
  refine s_getR dX11_presentSpan_1 fX11_25 lysX11 rfl ?_
  refine r_aload_n dX11_presentSpan_4 rfl rfl ?_
  refine s_getR dX11_presentSpan_5 fX11_10 lysX11 rfl ?_
  refine s_V1I mX10_compute dX11_presentSpan_8 okX10_compute lX11_221 npX10_compute (layX10 isX10_124) rfl (by decide) (by decide) (by decide) (Nat.le_of_ble_eq_true rfl) (Nat.le_of_ble_eq_true rfl) (c_compute0 ho isX10_124 hC (z_gd hz) (c_Q_h (c_Z_Q hZ) (Or.inl rfl)).1 (c_Q_h (c_Z_Q hZ) (Or.inl rfl)).2) (fun x s1 hq => ?_)
  obtain ⟨rfl, ht, h6, h5, h9, h10, hf1⟩ := hq
  replace hC := c_R_fr hC hf1 (Or.inl (by omega)) hs.1
  replace hZ := c_Z_e0 hZ hz hC (c_eq_tt (Or.inl rfl) h5 h9 h10 hf1)
  replace hf := s_fr_tr hf (s_fr_w hf1 (by omega) (by omega))
  refine r_pop dX11_presentSpan_11 rfl ?_
  refine r_aload_n dX11_presentSpan_12 rfl rfl ?_
  refine s_getR dX11_presentSpan_13 fX11_25 lysX11 rfl ?_
  refine s_getI dX11_presentSpan_16 fX11_242 (layX10 isX10_124) rfl h6 ?_
  refine s_iret dX11_presentSpan_19 rfl rfl ?_
  exact ⟨_, rfl, rfl, ht, hC, hZ, hf⟩
set_option maxRecDepth 20000 in
set_option maxHeartbeats 1000000 in
theorem c_makespan {G : q_G} {s : s_T} {z : z_T} (hz : z_wf z) (hZ : c_Z z s) : s_W G mX11_makespan 5 0 0 (c_P [] (A_makespan z) s) 0 (q_ent mX11_makespan [.ref 0]) [] s := by
  show s_W G mX11_makespan 5 0 0 _ 0 [some (.ref 0)] [] s
  have hw := hz.1.1
  have hs := x_sz hw
  have hC := hZ.1
  have hf : s_fr 0 212 s s := s_fr_rf
  have ho : isX7 1 := Or.inl rfl
  refine r_aload_n dX11_makespan_0 rfl rfl ?_
  refine s_V0I mX11_presentSpan dX11_makespan_1 okX11_presentSpan lX11_234 npX11_presentSpan lysX11 rfl (by decide) (by decide) (by decide) (Nat.le_of_ble_eq_true rfl) (Nat.le_of_ble_eq_true rfl) (c_presentSpan hz hZ) (fun x s1 hq => ?_)
  obtain ⟨rfl, ht, hC1, hZ1, hf1⟩ := hq
  replace hC := hC1
  replace hZ := hZ1
  replace hf := s_fr_tr hf hf1
  refine s_iret dX11_makespan_4 rfl rfl ?_
  exact c_P_s rfl hZ hf
set_option maxRecDepth 20000 in
set_option maxHeartbeats 1000000 in
theorem c_time {G : q_G} {s : s_T} {z : z_T} (hz : z_wf z) (hZ : c_Z z s) {k a : Int32} : s_W G mX11_time 8 2 12 (c_P [q_IO, q_IA] (A_time z k a) s) 0 (q_ent mX11_time [.ref 0, .int k, .int a]) [] s := by
  show s_W G mX11_time 8 2 12 _ 0 [some (.ref 0), some (.int k), some (.int a)] [] s
  have hw := hz.1.1
  have hs := x_sz hw
  have hC := hZ.1
  have hf : s_fr 0 212 s s := s_fr_rf
  have ho : isX7 1 := Or.inl rfl
  refine r_aload_n dX11_time_0 rfl rfl ?_
  refine r_iload_n dX11_time_1 rfl rfl ?_
  refine s_V1X mX11_requireOperation dX11_time_2 okX11_requireOperation lX11_151 npX11_requireOperation lysX11 rfl (by decide) (by decide) (by decide) (Nat.le_of_ble_eq_true rfl) (Nat.le_of_ble_eq_true rfl) (c_requireOperation hC hw) (fun v s1 hq => ?_) (fun E s1 hq => by obtain ⟨rfl, c9, rfl⟩ := c_rq_f hq; exact x_out rfl (s_end (c_P_e 1 (by unfold A_time; simp [*]) (by decide) rfl hZ hf)))
  obtain ⟨rfl, c2, rfl⟩ := c_rq_t hq
  obtain ⟨k, rfl, hk, hk2⟩ := iLt_n c2
  have ek := iN_n hk2
  refine r_iload_n dX11_time_5 rfl rfl ?_
  refine n_const 2 dX11_time_6 (by decide) ?_
  refine s_S2I mX11_within dX11_time_7 okX11_within lX11_138 npX11_within (by decide) (by decide) (by decide) (Nat.le_of_ble_eq_true rfl) (Nat.le_of_ble_eq_true rfl) (c_within (by decide)) (fun x s1 hq => ?_)
  obtain ⟨rfl, rfl⟩ := hq
  refine b_ifne (tgt := 23) dX11_time_10 (by decide) (fun c10 => ?_) (fun c10 => ?_)
  · obtain ⟨a, rfl, ha0, ha, ha2⟩ := iIn_n c10
    have ea := iN_n ha2
    refine r_aload_n dX11_time_23 rfl rfl ?_
    refine s_getR dX11_time_24 fX11_25 lysX11 rfl ?_
    refine r_aload_n dX11_time_27 rfl rfl ?_
    refine s_getR dX11_time_28 fX11_10 lysX11 rfl ?_
    refine s_V1I mX10_compute dX11_time_31 okX10_compute lX11_221 npX10_compute (layX10 isX10_124) rfl (by decide) (by decide) (by decide) (Nat.le_of_ble_eq_true rfl) (Nat.le_of_ble_eq_true rfl) (c_compute0 ho isX10_124 hC (z_gd hz) (c_Q_h (c_Z_Q hZ) (Or.inl rfl)).1 (c_Q_h (c_Z_Q hZ) (Or.inl rfl)).2) (fun x s1 hq => ?_)
    obtain ⟨rfl, ht, h6, h5, h9, h10, hf1⟩ := hq
    replace hC := c_R_fr hC hf1 (Or.inl (by omega)) hs.1
    replace hZ := c_Z_e0 hZ hz hC (c_eq_tt (Or.inl rfl) h5 h9 h10 hf1)
    replace hf := s_fr_tr hf (s_fr_w hf1 (by omega) (by omega))
    refine r_pop dX11_time_34 rfl ?_
    refine r_iload_n dX11_time_35 rfl rfl ?_
    refine n_ifne (tgt := 49) dX11_time_36 (by decide) (by omega) (fun c36 => ?_) (fun c36 => ?_)
    · have ha9 : ¬ a = 0 := by omega
      refine r_iload_n dX11_time_49 rfl rfl ?_
      refine n_const 1 dX11_time_50 (by decide) ?_
      refine n_cne (tgt := 66) dX11_time_51 (by decide) (by omega) (by omega) (fun c51 => ?_) (fun c51 => ?_)
      · refine r_aload_n dX11_time_66 rfl rfl ?_
        refine s_getR dX11_time_67 fX11_25 lysX11 rfl ?_
        refine s_getR dX11_time_70 fX11_231 (layX10 isX10_124) rfl ?_
        refine r_iload_n dX11_time_73 rfl rfl ?_
        refine a_ld dX11_time_74 (X10_end isX10_124) (by omega) (by decide) (ht _ hk).2.2.1 ?_
        refine s_iret dX11_time_75 rfl rfl ?_
        first
          | exact c_P_s (by unfold A_time; simp [*, show iN (nI 0) = 0 by decide, show iN (nI 1) = 1 by decide]) hZ hf
          | exact c_P_n (by unfold A_time; simp [*, show iN (nI 0) = 0 by decide, show iN (nI 1) = 1 by decide]) hZ hf
      · subst c51
        refine r_aload_n dX11_time_54 rfl rfl ?_
        refine s_getR dX11_time_55 fX11_25 lysX11 rfl ?_
        refine s_getR dX11_time_58 fX11_228 (layX10 isX10_124) rfl ?_
        refine r_iload_n dX11_time_61 rfl rfl ?_
        refine a_ld dX11_time_62 (X10_start isX10_124) (by omega) (by decide) (ht _ hk).2.1 ?_
        refine r_goto (tgt := 75) dX11_time_63 (by decide) ?_
        refine s_iret dX11_time_75 rfl rfl ?_
        first
          | exact c_P_s (by unfold A_time; simp [*, show iN (nI 0) = 0 by decide, show iN (nI 1) = 1 by decide]) hZ hf
          | exact c_P_n (by unfold A_time; simp [*, show iN (nI 0) = 0 by decide, show iN (nI 1) = 1 by decide]) hZ hf
    · subst c36
      refine r_aload_n dX11_time_39 rfl rfl ?_
      refine s_getR dX11_time_40 fX11_25 lysX11 rfl ?_
      refine s_getR dX11_time_43 fX11_225 (layX10 isX10_124) rfl ?_
      refine r_iload_n dX11_time_46 rfl rfl ?_
      refine a_ld dX11_time_47 (X10_ready isX10_124) (by omega) (by decide) (ht _ hk).1 ?_
      refine s_iret dX11_time_48 rfl rfl ?_
      first
        | exact c_P_s (by unfold A_time; simp [*, show iN (nI 0) = 0 by decide, show iN (nI 1) = 1 by decide]) hZ hf
        | exact c_P_n (by unfold A_time; simp [*, show iN (nI 0) = 0 by decide, show iN (nI 1) = 1 by decide]) hZ hf
  · refine s_throwS dX11_time_13 dX11_time_16 dX11_time_17 dX11_time_19 dX11_time_22 thrX11_219_96 rfl (by decide) (by decide) (by decide) (Nat.le_of_ble_eq_true rfl) ?_
    exact c_P_e 2 (by unfold A_time; simp [*, show iN (nI 0) = 0 by decide, show iN (nI 1) = 1 by decide]) (by decide) rfl hZ hf
set_option maxRecDepth 20000 in
set_option maxHeartbeats 1000000 in
theorem c_completion {G : q_G} {s : s_T} {z : z_T} (hz : z_wf z) (hZ : c_Z z s) {j : Int32} : s_W G mX11_completion 8 2 12 (c_P [q_IO] (A_completion z j) s) 0 (q_ent mX11_completion [.ref 0, .int j]) [] s := by
  show s_W G mX11_completion 8 2 12 _ 0 [some (.ref 0), some (.int j)] [] s
  have hw := hz.1.1
  have hs := x_sz hw
  have hC := hZ.1
  have hf : s_fr 0 212 s s := s_fr_rf
  have ho : isX7 1 := Or.inl rfl
  refine r_aload_n dX11_completion_0 rfl rfl ?_
  refine r_iload_n dX11_completion_1 rfl rfl ?_
  refine s_V1X mX11_requireJob dX11_completion_2 okX11_requireJob lX11_112 npX11_requireJob lysX11 rfl (by decide) (by decide) (by decide) (Nat.le_of_ble_eq_true rfl) (Nat.le_of_ble_eq_true rfl) (c_requireJob hC hw) (fun v s1 hq => ?_) (fun E s1 hq => by obtain ⟨rfl, c9, rfl⟩ := c_rq_f hq; exact x_out rfl (s_end (c_P_e 1 (by unfold A_completion; simp [*]) (by decide) rfl hZ hf)))
  obtain ⟨rfl, c2, rfl⟩ := c_rq_t hq
  obtain ⟨j, rfl, hj, hj2⟩ := iLt_n c2
  have ej := iN_n hj2
  refine r_aload_n dX11_completion_5 rfl rfl ?_
  refine s_getR dX11_completion_6 fX11_25 lysX11 rfl ?_
  refine r_aload_n dX11_completion_9 rfl rfl ?_
  refine s_getR dX11_completion_10 fX11_10 lysX11 rfl ?_
  refine s_V1I mX10_compute dX11_completion_13 okX10_compute lX11_221 npX10_compute (layX10 isX10_124) rfl (by decide) (by decide) (by decide) (Nat.le_of_ble_eq_true rfl) (Nat.le_of_ble_eq_true rfl) (c_compute0 ho isX10_124 hC (z_gd hz) (c_Q_h (c_Z_Q hZ) (Or.inl rfl)).1 (c_Q_h (c_Z_Q hZ) (Or.inl rfl)).2) (fun x s1 hq => ?_)
  obtain ⟨rfl, ht, h6, h5, h9, h10, hf1⟩ := hq
  replace hC := c_R_fr hC hf1 (Or.inl (by omega)) hs.1
  replace hZ := c_Z_e0 hZ hz hC (c_eq_tt (Or.inl rfl) h5 h9 h10 hf1)
  replace hf := s_fr_tr hf (s_fr_w hf1 (by omega) (by omega))
  refine r_pop dX11_completion_16 rfl ?_
  refine r_aload_n dX11_completion_17 rfl rfl ?_
  refine s_getR dX11_completion_18 fX11_25 lysX11 rfl ?_
  refine r_aload_n dX11_completion_21 rfl rfl ?_
  refine s_getR dX11_completion_22 fX11_10 lysX11 rfl ?_
  refine r_iload_n dX11_completion_25 rfl rfl ?_
  refine s_V2I mX10_completionOf dX11_completion_26 okX10_completionOf lX11_245 npX10_completionOf (layX10 isX10_124) rfl (by decide) (by decide) (by decide) (Nat.le_of_ble_eq_true rfl) (Nat.le_of_ble_eq_true rfl) (c_completionOf ho isX10_124 hC (z_gd hz) hj ht) (fun x s1 hq => ?_)
  obtain ⟨rfl, rfl⟩ := hq
  refine s_iret dX11_completion_29 rfl rfl ?_
  first
    | exact c_P_s (by unfold A_completion; simp [*]) hZ hf
    | exact c_P_n (by unfold A_completion; simp [*]) hZ hf
set_option maxRecDepth 20000 in
set_option maxHeartbeats 1000000 in
theorem c_tardinessOf {G : q_G} {s : s_T} {z : z_T} (hz : z_wf z) (hC : c_R (z 0) s 1) (ht : c_t0 (z 0) s 124) {j : Nat} (hj : j < z 0 0) : s_W G mX11_tardinessOf 2 0 0 (c_I (fun y9 s1 => s1 = s ∧ y9 = nI (x_ta (z 0) j))) 0 (q_ent mX11_tardinessOf [.ref 0, .int (nI j)]) [] s := by
  show s_W G mX11_tardinessOf 2 0 0 _ 0 [some (.ref 0), some (.int (nI j))] [] s
  have hw := hz.1.1
  have hs := x_sz hw
  have hg := z_gd hz
  have ho : isX7 1 := Or.inl rfl
  have hcp := x_cp_bd hg hj
  have hjb := x_jb hw hj
  refine n_const 0 dX11_tardinessOf_0 (by decide) ?_
  refine r_aload_n dX11_tardinessOf_1 rfl rfl ?_
  refine s_getR dX11_tardinessOf_2 fX11_25 lysX11 rfl ?_
  refine r_aload_n dX11_tardinessOf_5 rfl rfl ?_
  refine s_getR dX11_tardinessOf_6 fX11_10 lysX11 rfl ?_
  refine r_iload_n dX11_tardinessOf_9 rfl rfl ?_
  refine s_V2I mX10_completionOf dX11_tardinessOf_10 okX10_completionOf lX11_245 npX10_completionOf (layX10 isX10_124) rfl (by decide) (by decide) (by decide) (Nat.le_of_ble_eq_true rfl) (Nat.le_of_ble_eq_true rfl) (c_completionOf ho isX10_124 hC (z_gd hz) hj ht) (fun x s1 hq => ?_)
  obtain ⟨rfl, rfl⟩ := hq
  refine r_aload_n dX11_tardinessOf_13 rfl rfl ?_
  refine s_getR dX11_tardinessOf_14 fX11_10 lysX11 rfl ?_
  refine s_getR dX11_tardinessOf_17 fX11_147 (layX7 isX7_1) rfl ?_
  refine r_iload_n dX11_tardinessOf_20 rfl rfl ?_
  refine a_ald dX11_tardinessOf_21 (X7_jobData isX7_1) (by omega) (by decide) ?_
  refine n_const 1 dX11_tardinessOf_22 (by decide) ?_
  refine a_ld dX11_tardinessOf_23 (X7_jobData_row isX7_1 (by omega)) (by omega) (by decide) (cl_due hC hj) ?_
  refine r_isub dX11_tardinessOf_24 ?_
  refine r_mmax dX11_tardinessOf_25 kwM_X11_max kwM_static_max kwM_ini kwM_code_max (by decide) (Nat.le_of_ble_eq_true rfl) ?_
  rw [n_max0 (by omega) (by omega)]
  refine s_iret dX11_tardinessOf_28 rfl rfl ?_
  exact ⟨_, rfl, rfl, rfl⟩
set_option maxRecDepth 20000 in
set_option maxHeartbeats 1000000 in
theorem c_sumOfCompletions {G : q_G} {s : s_T} {z : z_T} (hz : z_wf z) (hC : c_R (z 0) s 1) (ht : c_t0 (z 0) s 124) : s_W G mX11_sumOfCompletions 3 0 0 (c_I (fun y9 s1 => s1 = s ∧ y9 = nI (x_sm (x_cp (z 0) (x_e0 (z 0))) (z 0 0)))) 0 (q_ent mX11_sumOfCompletions [.ref 0]) [] s := by
  show s_W G mX11_sumOfCompletions 3 0 0 _ 0 [some (.ref 0), none, none] [] s
  have hw := hz.1.1
  have hs := x_sz hw
  have hg := z_gd hz
  have ho : isX7 1 := Or.inl rfl
  have lp : ∀ f j, j ≤ z 0 0 → z 0 0 < j + f → s_W G mX11_sumOfCompletions 3 0 0 (c_I (fun y9 s1 => s1 = s ∧ y9 = nI (x_sm (x_cp (z 0) (x_e0 (z 0))) (z 0 0)))) 4 [some (.ref 0), some (.int (nI (x_sm (x_cp (z 0) (x_e0 (z 0))) j))), some (.int (nI j))] [] s := by
    intro f
    induction f with
    | zero =>
      intro j hl hme
      exact absurd hme (by omega)
    | succ f ih =>
      intro j hl hme
      refine r_iload_n dX11_sumOfCompletions_4 rfl rfl ?_
      refine r_aload_n dX11_sumOfCompletions_5 rfl rfl ?_
      refine s_getR dX11_sumOfCompletions_6 fX11_10 lysX11 rfl ?_
      refine s_getI dX11_sumOfCompletions_9 fX11_99 (layX7 isX7_1) rfl (cl_jobs hC) ?_
      refine n_cge (tgt := 36) dX11_sumOfCompletions_12 (by decide) (by omega) (by omega) (fun c12 => ?_) (fun c12 => ?_)
      · refine r_iload_n dX11_sumOfCompletions_36 rfl rfl ?_
        refine s_iret dX11_sumOfCompletions_37 rfl rfl ?_
        have e9 : j = z 0 0 := by omega
        subst e9
        exact ⟨_, rfl, rfl, rfl⟩
      · have hj := c12
        have hcp := x_cp_bd hg hj
        have hjb := x_jb hw hj
        refine r_iload_n dX11_sumOfCompletions_15 rfl rfl ?_
        refine r_aload_n dX11_sumOfCompletions_16 rfl rfl ?_
        refine s_getR dX11_sumOfCompletions_17 fX11_25 lysX11 rfl ?_
        refine r_aload_n dX11_sumOfCompletions_20 rfl rfl ?_
        refine s_getR dX11_sumOfCompletions_21 fX11_10 lysX11 rfl ?_
        refine r_iload_n dX11_sumOfCompletions_24 rfl rfl ?_
        refine s_V2I mX10_completionOf dX11_sumOfCompletions_25 okX10_completionOf lX11_245 npX10_completionOf (layX10 isX10_124) rfl (by decide) (by decide) (by decide) (Nat.le_of_ble_eq_true rfl) (Nat.le_of_ble_eq_true rfl) (c_completionOf ho isX10_124 hC (z_gd hz) hj ht) (fun x s1 hq => ?_)
        obtain ⟨rfl, rfl⟩ := hq
        refine n_add dX11_sumOfCompletions_28 ?_
        refine r_istore_n dX11_sumOfCompletions_29 rfl (by decide) rfl ?_
        refine n_inc dX11_sumOfCompletions_30 rfl (n_i1 _) (by decide) rfl ?_
        refine r_goto (tgt := 4) dX11_sumOfCompletions_33 (by decide) ?_
        exact ih (j + 1) (by omega) (by omega)
  refine n_const 0 dX11_sumOfCompletions_0 (by decide) ?_
  refine r_istore_n dX11_sumOfCompletions_1 rfl (by decide) rfl ?_
  refine n_const 0 dX11_sumOfCompletions_2 (by decide) ?_
  refine r_istore_n dX11_sumOfCompletions_3 rfl (by decide) rfl ?_
  exact lp (z 0 0 + 1) 0 (by omega) (by omega)
set_option maxRecDepth 20000 in
set_option maxHeartbeats 1000000 in
theorem c_weightedTardiness {G : q_G} {s : s_T} {z : z_T} (hz : z_wf z) (hC : c_R (z 0) s 1) (ht : c_t0 (z 0) s 124) : s_W G mX11_weightedTardiness 3 0 0 (c_I (fun y9 s1 => s1 = s ∧ y9 = nI (x_sm (fun j => z 0 (12 + j) * x_ta (z 0) j) (z 0 0)))) 0 (q_ent mX11_weightedTardiness [.ref 0]) [] s := by
  show s_W G mX11_weightedTardiness 3 0 0 _ 0 [some (.ref 0), none, none] [] s
  have hw := hz.1.1
  have hs := x_sz hw
  have hg := z_gd hz
  have ho : isX7 1 := Or.inl rfl
  have lp : ∀ f j, j ≤ z 0 0 → z 0 0 < j + f → s_W G mX11_weightedTardiness 3 0 0 (c_I (fun y9 s1 => s1 = s ∧ y9 = nI (x_sm (fun j => z 0 (12 + j) * x_ta (z 0) j) (z 0 0)))) 4 [some (.ref 0), some (.int (nI (x_sm (fun j => z 0 (12 + j) * x_ta (z 0) j) j))), some (.int (nI j))] [] s := by
    intro f
    induction f with
    | zero =>
      intro j hl hme
      exact absurd hme (by omega)
    | succ f ih =>
      intro j hl hme
      refine r_iload_n dX11_weightedTardiness_4 rfl rfl ?_
      refine r_aload_n dX11_weightedTardiness_5 rfl rfl ?_
      refine s_getR dX11_weightedTardiness_6 fX11_10 lysX11 rfl ?_
      refine s_getI dX11_weightedTardiness_9 fX11_99 (layX7 isX7_1) rfl (cl_jobs hC) ?_
      refine n_cge (tgt := 41) dX11_weightedTardiness_12 (by decide) (by omega) (by omega) (fun c12 => ?_) (fun c12 => ?_)
      · refine r_iload_n dX11_weightedTardiness_41 rfl rfl ?_
        refine s_iret dX11_weightedTardiness_42 rfl rfl ?_
        have e9 : j = z 0 0 := by omega
        subst e9
        exact ⟨_, rfl, rfl, rfl⟩
      · have hj := c12
        have hcp := x_cp_bd hg hj
        have hjb := x_jb hw hj
        refine r_iload_n dX11_weightedTardiness_15 rfl rfl ?_
        refine r_aload_n dX11_weightedTardiness_16 rfl rfl ?_
        refine s_getR dX11_weightedTardiness_17 fX11_10 lysX11 rfl ?_
        refine s_getR dX11_weightedTardiness_20 fX11_147 (layX7 isX7_1) rfl ?_
        refine r_iload_n dX11_weightedTardiness_23 rfl rfl ?_
        refine a_ald dX11_weightedTardiness_24 (X7_jobData isX7_1) (by omega) (by decide) ?_
        refine n_const 2 dX11_weightedTardiness_25 (by decide) ?_
        refine a_ld dX11_weightedTardiness_26 (X7_jobData_row isX7_1 (by omega)) (by omega) (by decide) (cl_wt hC hj) ?_
        refine r_aload_n dX11_weightedTardiness_27 rfl rfl ?_
        refine r_iload_n dX11_weightedTardiness_28 rfl rfl ?_
        refine s_V1I mX11_tardinessOf dX11_weightedTardiness_29 okX11_tardinessOf lX11_420 npX11_tardinessOf lysX11 rfl (by decide) (by decide) (by decide) (Nat.le_of_ble_eq_true rfl) (Nat.le_of_ble_eq_true rfl) (c_tardinessOf hz hC ht hj) (fun x s1 hq => ?_)
        obtain ⟨rfl, rfl⟩ := hq
        have htb : x_ta (z 0) j ≤ 1400 := Nat.le_trans (Nat.sub_le _ _) hcp
        refine n_mul dX11_weightedTardiness_32 ?_
        refine n_add dX11_weightedTardiness_33 ?_
        refine r_istore_n dX11_weightedTardiness_34 rfl (by decide) rfl ?_
        refine n_inc dX11_weightedTardiness_35 rfl (n_i1 _) (by decide) rfl ?_
        refine r_goto (tgt := 4) dX11_weightedTardiness_38 (by decide) ?_
        exact ih (j + 1) (by omega) (by omega)
  refine n_const 0 dX11_weightedTardiness_0 (by decide) ?_
  refine r_istore_n dX11_weightedTardiness_1 rfl (by decide) rfl ?_
  refine n_const 0 dX11_weightedTardiness_2 (by decide) ?_
  refine r_istore_n dX11_weightedTardiness_3 rfl (by decide) rfl ?_
  exact lp (z 0 0 + 1) 0 (by omega) (by omega)
set_option maxRecDepth 20000 in
set_option maxHeartbeats 1000000 in
theorem c_tardyJobs {G : q_G} {s : s_T} {z : z_T} (hz : z_wf z) (hC : c_R (z 0) s 1) (ht : c_t0 (z 0) s 124) : s_W G mX11_tardyJobs 3 0 0 (c_I (fun y9 s1 => s1 = s ∧ y9 = nI (x_sm (fun j => if 0 < x_ta (z 0) j then 1 else 0) (z 0 0)))) 0 (q_ent mX11_tardyJobs [.ref 0]) [] s := by
  show s_W G mX11_tardyJobs 3 0 0 _ 0 [some (.ref 0), none, none] [] s
  have hw := hz.1.1
  have hs := x_sz hw
  have hg := z_gd hz
  have ho : isX7 1 := Or.inl rfl
  have lp : ∀ f j, j ≤ z 0 0 → z 0 0 < j + f → s_W G mX11_tardyJobs 3 0 0 (c_I (fun y9 s1 => s1 = s ∧ y9 = nI (x_sm (fun j => if 0 < x_ta (z 0) j then 1 else 0) (z 0 0)))) 4 [some (.ref 0), some (.int (nI (x_sm (fun j => if 0 < x_ta (z 0) j then 1 else 0) j))), some (.int (nI j))] [] s := by
    intro f
    induction f with
    | zero =>
      intro j hl hme
      exact absurd hme (by omega)
    | succ f ih =>
      intro j hl hme
      refine r_iload_n dX11_tardyJobs_4 rfl rfl ?_
      refine r_aload_n dX11_tardyJobs_5 rfl rfl ?_
      refine s_getR dX11_tardyJobs_6 fX11_10 lysX11 rfl ?_
      refine s_getI dX11_tardyJobs_9 fX11_99 (layX7 isX7_1) rfl (cl_jobs hC) ?_
      refine n_cge (tgt := 32) dX11_tardyJobs_12 (by decide) (by omega) (by omega) (fun c12 => ?_) (fun c12 => ?_)
      · refine r_iload_n dX11_tardyJobs_32 rfl rfl ?_
        refine s_iret dX11_tardyJobs_33 rfl rfl ?_
        have e9 : j = z 0 0 := by omega
        subst e9
        exact ⟨_, rfl, rfl, rfl⟩
      · have hj := c12
        have hcp := x_cp_bd hg hj
        have hjb := x_jb hw hj
        refine r_aload_n dX11_tardyJobs_15 rfl rfl ?_
        refine r_iload_n dX11_tardyJobs_16 rfl rfl ?_
        refine s_V1I mX11_tardinessOf dX11_tardyJobs_17 okX11_tardinessOf lX11_420 npX11_tardinessOf lysX11 rfl (by decide) (by decide) (by decide) (Nat.le_of_ble_eq_true rfl) (Nat.le_of_ble_eq_true rfl) (c_tardinessOf hz hC ht hj) (fun x s1 hq => ?_)
        obtain ⟨rfl, rfl⟩ := hq
        have htb : x_ta (z 0) j ≤ 1400 := Nat.le_trans (Nat.sub_le _ _) hcp
        refine n_ifle (tgt := 26) dX11_tardyJobs_20 (by decide) (by omega) (fun c20 => ?_) (fun c20 => ?_)
        · refine n_inc dX11_tardyJobs_26 rfl (n_i1 _) (by decide) rfl ?_
          refine r_goto (tgt := 4) dX11_tardyJobs_29 (by decide) ?_
          first
            | (rw [show x_sm (fun j => if 0 < x_ta (z 0) j then 1 else 0) j + 1 = x_sm (fun j => if 0 < x_ta (z 0) j then 1 else 0) (j + 1) by show _ = _ + (if _ then 1 else 0); rw [if_pos (by omega)]]; exact ih (j + 1) (by omega) (by omega))
            | (rw [show x_sm (fun j => if 0 < x_ta (z 0) j then 1 else 0) j = x_sm (fun j => if 0 < x_ta (z 0) j then 1 else 0) (j + 1) by show _ = _ + (if _ then 1 else 0); rw [if_neg (by omega)]; rfl]; exact ih (j + 1) (by omega) (by omega))
        · refine n_inc dX11_tardyJobs_23 rfl (n_i1 _) (by decide) rfl ?_
          refine n_inc dX11_tardyJobs_26 rfl (n_i1 _) (by decide) rfl ?_
          refine r_goto (tgt := 4) dX11_tardyJobs_29 (by decide) ?_
          first
            | (rw [show x_sm (fun j => if 0 < x_ta (z 0) j then 1 else 0) j + 1 = x_sm (fun j => if 0 < x_ta (z 0) j then 1 else 0) (j + 1) by show _ = _ + (if _ then 1 else 0); rw [if_pos (by omega)]]; exact ih (j + 1) (by omega) (by omega))
            | (rw [show x_sm (fun j => if 0 < x_ta (z 0) j then 1 else 0) j = x_sm (fun j => if 0 < x_ta (z 0) j then 1 else 0) (j + 1) by show _ = _ + (if _ then 1 else 0); rw [if_neg (by omega)]; rfl]; exact ih (j + 1) (by omega) (by omega))
  refine n_const 0 dX11_tardyJobs_0 (by decide) ?_
  refine r_istore_n dX11_tardyJobs_1 rfl (by decide) rfl ?_
  refine n_const 0 dX11_tardyJobs_2 (by decide) ?_
  refine r_istore_n dX11_tardyJobs_3 rfl (by decide) rfl ?_
  exact lp (z 0 0 + 1) 0 (by omega) (by omega)
set_option maxRecDepth 20000 in
set_option maxHeartbeats 1000000 in
theorem c_sumOfWaits {G : q_G} {s : s_T} {z : z_T} (hz : z_wf z) (hC : c_R (z 0) s 1) (ht : c_t0 (z 0) s 124) : s_W G mX11_sumOfWaits 3 0 0 (c_I (fun y9 s1 => s1 = s ∧ y9 = nI (x_sm (fun k => x_t0 (z 0) k - x_r0 (z 0) k) (z 0 1)))) 0 (q_ent mX11_sumOfWaits [.ref 0]) [] s := by
  show s_W G mX11_sumOfWaits 3 0 0 _ 0 [some (.ref 0), none, none] [] s
  have hw := hz.1.1
  have hs := x_sz hw
  have hg := z_gd hz
  have ho : isX7 1 := Or.inl rfl
  have lp : ∀ f k, k ≤ z 0 1 → z 0 1 < k + f → s_W G mX11_sumOfWaits 3 0 0 (c_I (fun y9 s1 => s1 = s ∧ y9 = nI (x_sm (fun k => x_t0 (z 0) k - x_r0 (z 0) k) (z 0 1)))) 4 [some (.ref 0), some (.int (nI (x_sm (fun k => x_t0 (z 0) k - x_r0 (z 0) k) k))), some (.int (nI k))] [] s := by
    intro f
    induction f with
    | zero =>
      intro k hl hme
      exact absurd hme (by omega)
    | succ f ih =>
      intro k hl hme
      refine r_iload_n dX11_sumOfWaits_4 rfl rfl ?_
      refine r_aload_n dX11_sumOfWaits_5 rfl rfl ?_
      refine s_getR dX11_sumOfWaits_6 fX11_10 lysX11 rfl ?_
      refine s_getI dX11_sumOfWaits_9 fX11_181 (layX7 isX7_1) rfl (cl_ops hC) ?_
      refine n_cge (tgt := 43) dX11_sumOfWaits_12 (by decide) (by omega) (by omega) (fun c12 => ?_) (fun c12 => ?_)
      · refine r_iload_n dX11_sumOfWaits_43 rfl rfl ?_
        refine s_iret dX11_sumOfWaits_44 rfl rfl ?_
        have e9 : k = z 0 1 := by omega
        subst e9
        exact ⟨_, rfl, rfl, rfl⟩
      · have hk := c12
        have hkb := x_t0_bd hg hk
        refine r_iload_n dX11_sumOfWaits_15 rfl rfl ?_
        refine r_aload_n dX11_sumOfWaits_16 rfl rfl ?_
        refine s_getR dX11_sumOfWaits_17 fX11_25 lysX11 rfl ?_
        refine s_getR dX11_sumOfWaits_20 fX11_228 (layX10 isX10_124) rfl ?_
        refine r_iload_n dX11_sumOfWaits_23 rfl rfl ?_
        refine a_ld dX11_sumOfWaits_24 (X10_start isX10_124) (by omega) (by decide) (ht _ hk).2.1 ?_
        refine r_aload_n dX11_sumOfWaits_25 rfl rfl ?_
        refine s_getR dX11_sumOfWaits_26 fX11_25 lysX11 rfl ?_
        refine s_getR dX11_sumOfWaits_29 fX11_225 (layX10 isX10_124) rfl ?_
        refine r_iload_n dX11_sumOfWaits_32 rfl rfl ?_
        refine a_ld dX11_sumOfWaits_33 (X10_ready isX10_124) (by omega) (by decide) (ht _ hk).1 ?_
        refine n_sub dX11_sumOfWaits_34 (by omega) ?_
        refine n_add dX11_sumOfWaits_35 ?_
        refine r_istore_n dX11_sumOfWaits_36 rfl (by decide) rfl ?_
        refine n_inc dX11_sumOfWaits_37 rfl (n_i1 _) (by decide) rfl ?_
        refine r_goto (tgt := 4) dX11_sumOfWaits_40 (by decide) ?_
        exact ih (k + 1) (by omega) (by omega)
  refine n_const 0 dX11_sumOfWaits_0 (by decide) ?_
  refine r_istore_n dX11_sumOfWaits_1 rfl (by decide) rfl ?_
  refine n_const 0 dX11_sumOfWaits_2 (by decide) ?_
  refine r_istore_n dX11_sumOfWaits_3 rfl (by decide) rfl ?_
  exact lp (z 0 1 + 1) 0 (by omega) (by omega)
set_option maxRecDepth 20000 in
set_option maxHeartbeats 1000000 in
theorem c_sumOfSetups {G : q_G} {s : s_T} {z : z_T} (hz : z_wf z) (hC : c_R (z 0) s 1) (ht : c_t0 (z 0) s 124) : s_W G mX11_sumOfSetups 2 0 0 (c_I (fun y9 s1 => s1 = s ∧ y9 = nI (x_ss (z 0) 4))) 0 (q_ent mX11_sumOfSetups [.ref 0]) [] s := by
  show s_W G mX11_sumOfSetups 2 0 0 _ 0 [some (.ref 0), none, none, none, none] [] s
  have hw := hz.1.1
  have hs := x_sz hw
  have hg := z_gd hz
  have ho : isX7 1 := Or.inl rfl
  have ol : ∀ f m (L3 : Option Value) (L4 : Option Value), m ≤ 4 → 4 < m + f → s_W G mX11_sumOfSetups 2 0 0 (c_I (fun y9 s1 => s1 = s ∧ y9 = nI (x_ss (z 0) 4))) 4 [some (.ref 0), some (.int (nI (x_ss (z 0) m))), some (.int (nI m)), L3, L4] [] s := by
    intro f
    induction f with
    | zero =>
      intro m L3 L4 hm hme
      exact absurd hme (by omega)
    | succ f ih =>
      intro m L3 L4 hm hme
      have hO := c_R_O hC
      refine r_iload_n dX11_sumOfSetups_4 rfl rfl ?_
      refine n_const 4 dX11_sumOfSetups_5 (by decide) ?_
      refine n_cge (tgt := 74) dX11_sumOfSetups_6 (by decide) (by omega) (by omega) (fun c6 => ?_) (fun c6 => ?_)
      · refine r_iload_n dX11_sumOfSetups_74 rfl rfl ?_
        refine s_iret dX11_sumOfSetups_75 rfl rfl ?_
        have e9 : m = 4 := by omega
        subst e9
        exact ⟨_, rfl, rfl, rfl⟩
      · have hm4 := c6
        refine r_aload_n dX11_sumOfSetups_9 rfl rfl ?_
        refine s_getR dX11_sumOfSetups_10 fX11_10 lysX11 rfl ?_
        refine s_getR dX11_sumOfSetups_13 fX11_196 (layX7 isX7_1) rfl ?_
        refine s_getR dX11_sumOfSetups_16 fX11_216 (layX5 (X7_orders isX7_1)) rfl ?_
        refine r_iload_n dX11_sumOfSetups_19 rfl rfl ?_
        refine a_ald dX11_sumOfSetups_20 (X5_rows (X7_orders isX7_1)) (by omega) (by decide) ?_
        refine r_astore_n dX11_sumOfSetups_21 rfl (by decide) rfl ?_
        refine n_const 1 dX11_sumOfSetups_22 (by decide) ?_
        refine r_istore dX11_sumOfSetups_23 (by decide) rfl ?_
        have il : ∀ f2 i, i ≤ z 0 (179 + m) - 1 → z 0 (179 + m) - 1 < i + f2 → s_W G mX11_sumOfSetups 2 0 0 (c_I (fun y9 s1 => s1 = s ∧ y9 = nI (x_ss (z 0) 4))) 25 [some (.ref 0), some (.int (nI (x_ss (z 0) m + x_sm (x_si (z 0) m) i))), some (.int (nI m)), some (.ref (38 + m)), some (.int (nI (i + 1)))] [] s := by
          intro f2
          induction f2 with
          | zero =>
            intro i hi hme
            exact absurd hme (by omega)
          | succ f2 ih2 =>
            intro i hi hme
            have hmn := x_mn hw hm4
            refine r_iload dX11_sumOfSetups_25 rfl ?_
            refine r_aload_n dX11_sumOfSetups_27 rfl rfl ?_
            refine s_getR dX11_sumOfSetups_28 fX11_10 lysX11 rfl ?_
            refine s_getR dX11_sumOfSetups_31 fX11_196 (layX7 isX7_1) rfl ?_
            refine s_getR dX11_sumOfSetups_34 fX11_266 (layX5 (X7_orders isX7_1)) rfl ?_
            refine r_iload_n dX11_sumOfSetups_37 rfl rfl ?_
            refine a_ld dX11_sumOfSetups_38 (X5_sizes (X7_orders isX7_1)) (by omega) (by decide) (co_on hO (by omega)) ?_
            refine n_cge (tgt := 68) dX11_sumOfSetups_39 (by decide) (by omega) (by omega) (fun c39 => ?_) (fun c39 => ?_)
            · refine n_inc dX11_sumOfSetups_68 rfl (n_i1 _) (by decide) rfl ?_
              refine r_goto (tgt := 4) dX11_sumOfSetups_71 (by decide) ?_
              have e9 : i = z 0 (179 + m) - 1 := by omega
              subst e9
              exact ih (m + 1) _ _ (by omega) (by omega)
            · have hod1 := x_od hw hm4 (p := i) (by omega)
              have hod2 := x_od hw hm4 (p := i + 1) (by omega)
              have hop1 := x_op hw hod1.1
              have hop2 := x_op hw hod2.1
              refine r_iload_n dX11_sumOfSetups_42 rfl rfl ?_
              refine r_aload_n dX11_sumOfSetups_43 rfl rfl ?_
              refine s_getR dX11_sumOfSetups_44 fX11_10 lysX11 rfl ?_
              refine r_aload_n dX11_sumOfSetups_47 rfl rfl ?_
              refine r_iload dX11_sumOfSetups_48 rfl ?_
              refine n_const 1 dX11_sumOfSetups_50 (by decide) ?_
              refine n_sub dX11_sumOfSetups_51 (by omega) ?_
              rw [Nat.add_sub_cancel]
              refine a_ld dX11_sumOfSetups_52 (X5_rows_row isX5_35 (by omega)) (by omega) (by decide) (co_ord hO (by omega) (by omega)) ?_
              refine r_aload_n dX11_sumOfSetups_53 rfl rfl ?_
              refine r_iload dX11_sumOfSetups_54 rfl ?_
              refine a_ld dX11_sumOfSetups_56 (X5_rows_row isX5_35 (by omega)) (by omega) (by decide) (co_ord hO (by omega) (by omega)) ?_
              refine s_V2I mX7_setupBetween dX11_sumOfSetups_57 okX7_setupBetween lX11_423 npX7_setupBetween (layX7 isX7_1) rfl (by decide) (by decide) (by decide) (Nat.le_of_ble_eq_true rfl) (Nat.le_of_ble_eq_true rfl) (c_setupBetween ho hC hw hod1.1 hod2.1) (fun x s1 hq => ?_)
              obtain ⟨rfl, rfl⟩ := hq
              refine n_add dX11_sumOfSetups_60 ?_
              refine r_istore_n dX11_sumOfSetups_61 rfl (by decide) rfl ?_
              refine n_inc dX11_sumOfSetups_62 rfl (n_i1 _) (by decide) rfl ?_
              refine r_goto (tgt := 25) dX11_sumOfSetups_65 (by decide) ?_
              rw [Nat.add_assoc (x_ss (z 0) m)]
              exact ih2 (i + 1) (by omega) (by omega)
        exact il (z 0 (179 + m) + 1) 0 (by omega) (by omega)
  refine n_const 0 dX11_sumOfSetups_0 (by decide) ?_
  refine r_istore_n dX11_sumOfSetups_1 rfl (by decide) rfl ?_
  refine n_const 0 dX11_sumOfSetups_2 (by decide) ?_
  refine r_istore_n dX11_sumOfSetups_3 rfl (by decide) rfl ?_
  exact ol 5 0 _ _ (by omega) (by omega)
set_option maxRecDepth 20000 in
set_option maxHeartbeats 1000000 in
theorem c_objective {G : q_G} {s : s_T} {z : z_T} (hz : z_wf z) (hZ : c_Z z s) {a : Int32} : s_W G mX11_objective 8 2 12 (c_P [q_IA] (A_objective z a) s) 0 (q_ent mX11_objective [.ref 0, .int a]) [] s := by
  show s_W G mX11_objective 8 2 12 _ 0 [some (.ref 0), some (.int a)] [] s
  have hw := hz.1.1
  have hs := x_sz hw
  have hC := hZ.1
  have hf : s_fr 0 212 s s := s_fr_rf
  have ho : isX7 1 := Or.inl rfl
  refine r_aload_n dX11_objective_0 rfl rfl ?_
  refine s_getR dX11_objective_1 fX11_25 lysX11 rfl ?_
  refine r_aload_n dX11_objective_4 rfl rfl ?_
  refine s_getR dX11_objective_5 fX11_10 lysX11 rfl ?_
  refine s_V1I mX10_compute dX11_objective_8 okX10_compute lX11_221 npX10_compute (layX10 isX10_124) rfl (by decide) (by decide) (by decide) (Nat.le_of_ble_eq_true rfl) (Nat.le_of_ble_eq_true rfl) (c_compute0 ho isX10_124 hC (z_gd hz) (c_Q_h (c_Z_Q hZ) (Or.inl rfl)).1 (c_Q_h (c_Z_Q hZ) (Or.inl rfl)).2) (fun x s1 hq => ?_)
  obtain ⟨rfl, ht, h6, h5, h9, h10, hf1⟩ := hq
  replace hC := c_R_fr hC hf1 (Or.inl (by omega)) hs.1
  replace hZ := c_Z_e0 hZ hz hC (c_eq_tt (Or.inl rfl) h5 h9 h10 hf1)
  replace hf := s_fr_tr hf (s_fr_w hf1 (by omega) (by omega))
  refine r_pop dX11_objective_11 rfl ?_
  refine r_iload_n dX11_objective_12 rfl rfl ?_
  by_cases cs13 : iIn a 0 4 = true
  · obtain ⟨n13, rfl, -, hn13, hn213⟩ := iIn_n cs13
    rcases (show n13 = 0 ∨ n13 = 1 ∨ n13 = 2 ∨ n13 = 3 ∨ n13 = 4 by omega) with rfl | rfl | rfl | rfl | rfl
    · have en13 : iN (nI 0) = 0 := by decide
      refine r_tabIn (tgt := 48) dX11_objective_13 (by decide) (by decide) rfl (by decide) ?_
      refine r_aload_n dX11_objective_48 rfl rfl ?_
      refine s_V0I mX11_sumOfCompletions dX11_objective_49 okX11_sumOfCompletions lX11_249 npX11_sumOfCompletions lysX11 rfl (by decide) (by decide) (by decide) (Nat.le_of_ble_eq_true rfl) (Nat.le_of_ble_eq_true rfl) (c_sumOfCompletions hz hC ht) (fun x s1 hq => ?_)
      obtain ⟨rfl, rfl⟩ := hq
      refine s_iret dX11_objective_52 rfl rfl ?_
      first
        | exact c_P_s (by unfold A_objective; simp [*, x_ob]) hZ hf
        | exact c_P_n (by unfold A_objective; simp [*, x_ob]) hZ hf
    · have en13 : iN (nI 1) = 1 := by decide
      refine r_tabIn (tgt := 53) dX11_objective_13 (by decide) (by decide) rfl (by decide) ?_
      refine r_aload_n dX11_objective_53 rfl rfl ?_
      refine s_V0I mX11_weightedTardiness dX11_objective_54 okX11_weightedTardiness lX11_252 npX11_weightedTardiness lysX11 rfl (by decide) (by decide) (by decide) (Nat.le_of_ble_eq_true rfl) (Nat.le_of_ble_eq_true rfl) (c_weightedTardiness hz hC ht) (fun x s1 hq => ?_)
      obtain ⟨rfl, rfl⟩ := hq
      refine s_iret dX11_objective_57 rfl rfl ?_
      first
        | exact c_P_s (by unfold A_objective; simp [*, x_ob]) hZ hf
        | exact c_P_n (by unfold A_objective; simp [*, x_ob]) hZ hf
    · have en13 : iN (nI 2) = 2 := by decide
      refine r_tabIn (tgt := 58) dX11_objective_13 (by decide) (by decide) rfl (by decide) ?_
      refine r_aload_n dX11_objective_58 rfl rfl ?_
      refine s_V0I mX11_tardyJobs dX11_objective_59 okX11_tardyJobs lX11_255 npX11_tardyJobs lysX11 rfl (by decide) (by decide) (by decide) (Nat.le_of_ble_eq_true rfl) (Nat.le_of_ble_eq_true rfl) (c_tardyJobs hz hC ht) (fun x s1 hq => ?_)
      obtain ⟨rfl, rfl⟩ := hq
      refine s_iret dX11_objective_62 rfl rfl ?_
      first
        | exact c_P_s (by unfold A_objective; simp [*, x_ob]) hZ hf
        | exact c_P_n (by unfold A_objective; simp [*, x_ob]) hZ hf
    · have en13 : iN (nI 3) = 3 := by decide
      refine r_tabIn (tgt := 63) dX11_objective_13 (by decide) (by decide) rfl (by decide) ?_
      refine r_aload_n dX11_objective_63 rfl rfl ?_
      refine s_V0I mX11_sumOfSetups dX11_objective_64 okX11_sumOfSetups lX11_258 npX11_sumOfSetups lysX11 rfl (by decide) (by decide) (by decide) (Nat.le_of_ble_eq_true rfl) (Nat.le_of_ble_eq_true rfl) (c_sumOfSetups hz hC ht) (fun x s1 hq => ?_)
      obtain ⟨rfl, rfl⟩ := hq
      refine s_iret dX11_objective_67 rfl rfl ?_
      first
        | exact c_P_s (by unfold A_objective; simp [*, x_ob]) hZ hf
        | exact c_P_n (by unfold A_objective; simp [*, x_ob]) hZ hf
    · have en13 : iN (nI 4) = 4 := by decide
      refine r_tabIn (tgt := 68) dX11_objective_13 (by decide) (by decide) rfl (by decide) ?_
      refine r_aload_n dX11_objective_68 rfl rfl ?_
      refine s_V0I mX11_sumOfWaits dX11_objective_69 okX11_sumOfWaits lX11_261 npX11_sumOfWaits lysX11 rfl (by decide) (by decide) (by decide) (Nat.le_of_ble_eq_true rfl) (Nat.le_of_ble_eq_true rfl) (c_sumOfWaits hz hC ht) (fun x s1 hq => ?_)
      obtain ⟨rfl, rfl⟩ := hq
      refine s_iret dX11_objective_72 rfl rfl ?_
      first
        | exact c_P_s (by unfold A_objective; simp [*, x_ob]) hZ hf
        | exact c_P_n (by unfold A_objective; simp [*, x_ob]) hZ hf
  · have cs13 : iIn a 0 4 = false := by simpa using cs13
    refine r_tabOut (tgt := 73) dX11_objective_13 (by have q := of_decide_eq_false cs13; omega) (by decide) ?_
    refine s_throwSW dX11_objective_73 dX11_objective_76 dX11_objective_77 dX11_objective_80 dX11_objective_83 thrX11_264_96 rfl (by decide) (by decide) (by decide) (Nat.le_of_ble_eq_true rfl) ?_
    exact c_P_e 1 (by unfold A_objective; simp [*, x_ob]) (by decide) rfl hZ hf
