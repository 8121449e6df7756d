section
/-! ===== the reference: dispatching ===== -/
set_option maxRecDepth 20000 in
set_option maxHeartbeats 1000000 in
theorem d_candidateStart {G : q_G} {s : s_T} {X : x_T} {g fx rk : Nat → Nat} {c k T : Nat} (hM : m_R X s) (h : y_iv X g fx rk c) (hk : y_cd X g k) (hT : T ≤ 999) (hE : ∀ q, q < X 1 → y_K X g q = true → s 223 q = nI (fx q)) : s_W G mX12_candidateStart 3 0 0 (c_I (fun y9 s1 => s1 = s ∧ y9 = nI (x_cs X fx T k))) 0 (q_ent mX12_candidateStart [.ref 212, .int (nI k), .int (nI T)]) [] s := by
  show s_W G mX12_candidateStart 3 0 0 _ 0 [some (.ref 212), some (.int (nI k)), some (.int (nI T)), none, none, none, none, none] [] s
  have hw := h.1.1
  have hk1 := hk.1
  have hk2 := y_op hw hk.1
  have hjb := y_jb hw hk2.2.2.1
  have hmn := y_mn hw hk2.2.2.2.2.2.2.1
  have hc20 := y_c h
  by_cases e0 : X (122 + k) = 0
  · refine r_aload_n dX12_candidateStart_0 rfl rfl ?_
    refine s_getR dX12_candidateStart_1 fX12_9 lysX12 rfl ?_
    refine n_bip 62 dX12_candidateStart_4 (by decide) ?_
    refine r_iload_n dX12_candidateStart_6 rfl rfl ?_
    refine n_add dX12_candidateStart_7 ?_
    refine m_ld dX12_candidateStart_8 hM (by omega) ?_
    refine r_istore_n dX12_candidateStart_9 rfl (by decide) rfl ?_
    refine r_aload_n dX12_candidateStart_10 rfl rfl ?_
    refine s_getR dX12_candidateStart_11 fX12_9 lysX12 rfl ?_
    refine n_sip 179 dX12_candidateStart_14 (by decide) ?_
    refine r_iload_n dX12_candidateStart_17 rfl rfl ?_
    refine n_add dX12_candidateStart_18 ?_
    refine m_ld dX12_candidateStart_19 hM (by omega) ?_
    refine r_istore dX12_candidateStart_20 (by decide) rfl ?_
    refine r_iload_n dX12_candidateStart_22 rfl rfl ?_
    refine r_aload_n dX12_candidateStart_23 rfl rfl ?_
    refine s_getR dX12_candidateStart_24 fX12_9 lysX12 rfl ?_
    refine n_const 2 dX12_candidateStart_27 (by decide) ?_
    refine r_aload_n dX12_candidateStart_28 rfl rfl ?_
    refine s_getR dX12_candidateStart_29 fX12_9 lysX12 rfl ?_
    refine n_bip 42 dX12_candidateStart_32 (by decide) ?_
    refine r_iload_n dX12_candidateStart_34 rfl rfl ?_
    refine n_add dX12_candidateStart_35 ?_
    refine m_ld dX12_candidateStart_36 hM (by omega) ?_
    refine n_add dX12_candidateStart_37 ?_
    refine m_ld dX12_candidateStart_38 hM (by omega) ?_
    refine r_mmax dX12_candidateStart_39 kwM_X12_max kwM_static_max kwM_ini kwM_code_max (by decide) (Nat.le_of_ble_eq_true rfl) ?_
    rw [nI_max (by omega) (by omega)]
    refine r_istore dX12_candidateStart_42 (by decide) rfl ?_
    refine r_aload_n dX12_candidateStart_44 rfl rfl ?_
    refine r_iload_n dX12_candidateStart_45 rfl rfl ?_
    refine s_V1I mX12_before dX12_candidateStart_46 okX12_before lX12_151 npX12_before lysX12 rfl (by decide) (by decide) (by decide) (Nat.le_of_ble_eq_true rfl) (Nat.le_of_ble_eq_true rfl) (d_before hM hw hk.1) (fun x s1 hq => ?_)
    obtain ⟨rfl, e9⟩ := hq
    have e9 : x = -1 := e9.trans (by rw [if_pos e0]; rfl)
    subst e9
    refine r_istore dX12_candidateStart_49 (by decide) rfl ?_
    refine r_iload dX12_candidateStart_51 rfl ?_
    refine r_iconst (v := -1) dX12_candidateStart_53 (by decide) ?_
    refine r_icmp_ne (tgt := 62) dX12_candidateStart_54 (by decide) (fun c54 => ?_) (fun c54 => ?_)
    · exact absurd rfl c54
    · refine r_iload dX12_candidateStart_57 rfl ?_
      refine r_goto (tgt := 85) dX12_candidateStart_59 (by decide) ?_
      refine r_istore dX12_candidateStart_85 (by decide) rfl ?_
      refine r_iload dX12_candidateStart_87 rfl ?_
      refine n_ifle (tgt := 136) dX12_candidateStart_89 (by decide) (by omega) (fun c89 => ?_) (fun c89 => ?_)
      · have hls : x_ls X k = none := by unfold x_ls; rw [if_pos (by omega)]
        have hlt : x_lt X fx k (x_ls X k) = 0 := by rw [hls]; rfl
        refine r_aload_n dX12_candidateStart_136 rfl rfl ?_
        refine r_iload_n dX12_candidateStart_137 rfl rfl ?_
        refine r_iload dX12_candidateStart_138 rfl ?_
        refine r_aload_n dX12_candidateStart_140 rfl rfl ?_
        refine s_getR dX12_candidateStart_141 fX12_9 lysX12 rfl ?_
        refine n_bip 82 dX12_candidateStart_144 (by decide) ?_
        refine r_iload_n dX12_candidateStart_146 rfl rfl ?_
        refine n_add dX12_candidateStart_147 ?_
        refine m_ld dX12_candidateStart_148 hM (by omega) ?_
        refine s_V3I mX12_free dX12_candidateStart_149 okX12_free lX12_178 npX12_free lysX12 rfl (by decide) (by decide) (by decide) (Nat.le_of_ble_eq_true rfl) (Nat.le_of_ble_eq_true rfl) (d_free hM hw (by omega) (by omega) (by omega)) (fun x s1 hq => ?_)
        obtain ⟨rfl, rfl⟩ := hq
        refine s_iret dX12_candidateStart_152 rfl rfl ?_
        refine ⟨_, rfl, rfl, ?_⟩
        unfold x_cs x_cr
        rw [if_pos e0, hlt]
        congr 2
        omega
      · have hls : x_ls X k = some (X (183 + 5 * X (62 + k) + (X (179 + X (62 + k)) - 1))) := by unfold x_ls; rw [if_neg (by omega)]
        have hlt : x_lt X fx k (x_ls X k) = fx (X (183 + 5 * X (62 + k) + (X (179 + X (62 + k)) - 1))) + X (82 + (X (183 + 5 * X (62 + k) + (X (179 + X (62 + k)) - 1)))) + X (142 + 3 * X (102 + (X (183 + 5 * X (62 + k) + (X (179 + X (62 + k)) - 1)))) + X (102 + k)) := by rw [hls]; rfl
        have hls2 := y_ls h hk.1 hls
        have hls21 := hls2.1
        have hls3 := (h.2.1 _ hls2.1 hls2.2).2.1
        have hlo := y_op hw hls2.1
        have hsu := y_su hw (f := X (102 + (X (183 + 5 * X (62 + k) + (X (179 + X (62 + k)) - 1))))) (g := X (102 + k)) (by omega) (by omega)
        refine r_aload_n dX12_candidateStart_92 rfl rfl ?_
        refine r_iload_n dX12_candidateStart_93 rfl rfl ?_
        refine r_iload dX12_candidateStart_94 rfl ?_
        refine n_const 1 dX12_candidateStart_96 (by decide) ?_
        refine n_sub dX12_candidateStart_97 (by omega) ?_
        refine s_V2I mX12_ordered dX12_candidateStart_98 okX12_ordered lX12_142 npX12_ordered lysX12 rfl (by decide) (by decide) (by decide) (Nat.le_of_ble_eq_true rfl) (Nat.le_of_ble_eq_true rfl) (c_ordered hM (by omega) (by omega)) (fun x s1 hq => ?_)
        obtain ⟨rfl, rfl⟩ := hq
        refine r_istore dX12_candidateStart_101 (by decide) rfl ?_
        refine r_iload dX12_candidateStart_103 rfl ?_
        refine r_aload_n dX12_candidateStart_105 rfl rfl ?_
        refine s_getR dX12_candidateStart_106 fX12_46 lysX12 rfl ?_
        refine r_iload dX12_candidateStart_109 rfl ?_
        refine a_ld dX12_candidateStart_111 rfl (by omega) (by decide) (hE _ hls2.1 hls2.2) ?_
        refine r_aload_n dX12_candidateStart_112 rfl rfl ?_
        refine s_getR dX12_candidateStart_113 fX12_9 lysX12 rfl ?_
        refine n_bip 82 dX12_candidateStart_116 (by decide) ?_
        refine r_iload dX12_candidateStart_118 rfl ?_
        refine n_add dX12_candidateStart_120 ?_
        refine m_ld dX12_candidateStart_121 hM (by omega) ?_
        refine n_add dX12_candidateStart_122 ?_
        refine r_aload_n dX12_candidateStart_123 rfl rfl ?_
        refine r_iload dX12_candidateStart_124 rfl ?_
        refine r_iload_n dX12_candidateStart_126 rfl rfl ?_
        refine s_V2I mX12_setup dX12_candidateStart_127 okX12_setup lX12_172 npX12_setup lysX12 rfl (by decide) (by decide) (by decide) (Nat.le_of_ble_eq_true rfl) (Nat.le_of_ble_eq_true rfl) (c_setup hM (by omega) (by omega) (by omega) (by omega)) (fun x s1 hq => ?_)
        obtain ⟨rfl, rfl⟩ := hq
        refine n_add dX12_candidateStart_130 ?_
        refine r_mmax dX12_candidateStart_131 kwM_X12_max kwM_static_max kwM_ini kwM_code_max (by decide) (Nat.le_of_ble_eq_true rfl) ?_
        rw [nI_max (by omega) (by omega)]
        refine r_istore dX12_candidateStart_134 (by decide) rfl ?_
        refine r_aload_n dX12_candidateStart_136 rfl rfl ?_
        refine r_iload_n dX12_candidateStart_137 rfl rfl ?_
        refine r_iload dX12_candidateStart_138 rfl ?_
        refine r_aload_n dX12_candidateStart_140 rfl rfl ?_
        refine s_getR dX12_candidateStart_141 fX12_9 lysX12 rfl ?_
        refine n_bip 82 dX12_candidateStart_144 (by decide) ?_
        refine r_iload_n dX12_candidateStart_146 rfl rfl ?_
        refine n_add dX12_candidateStart_147 ?_
        refine m_ld dX12_candidateStart_148 hM (by omega) ?_
        refine s_V3I mX12_free dX12_candidateStart_149 okX12_free lX12_178 npX12_free lysX12 rfl (by decide) (by decide) (by decide) (Nat.le_of_ble_eq_true rfl) (Nat.le_of_ble_eq_true rfl) (d_free hM hw (by omega) (by omega) (by omega)) (fun x s1 hq => ?_)
        obtain ⟨rfl, rfl⟩ := hq
        refine s_iret dX12_candidateStart_152 rfl rfl ?_
        refine ⟨_, rfl, rfl, ?_⟩
        unfold x_cs x_cr
        rw [if_pos e0, hlt]
        congr 2
        omega
  · have h4 := y_pv hw hk (by omega)
    have h41 := h4.1
    have h5 := (h.2.1 _ h4.1 h4.2.1)
    rw [h4.2.2] at h5
    refine r_aload_n dX12_candidateStart_0 rfl rfl ?_
    refine s_getR dX12_candidateStart_1 fX12_9 lysX12 rfl ?_
    refine n_bip 62 dX12_candidateStart_4 (by decide) ?_
    refine r_iload_n dX12_candidateStart_6 rfl rfl ?_
    refine n_add dX12_candidateStart_7 ?_
    refine m_ld dX12_candidateStart_8 hM (by omega) ?_
    refine r_istore_n dX12_candidateStart_9 rfl (by decide) rfl ?_
    refine r_aload_n dX12_candidateStart_10 rfl rfl ?_
    refine s_getR dX12_candidateStart_11 fX12_9 lysX12 rfl ?_
    refine n_sip 179 dX12_candidateStart_14 (by decide) ?_
    refine r_iload_n dX12_candidateStart_17 rfl rfl ?_
    refine n_add dX12_candidateStart_18 ?_
    refine m_ld dX12_candidateStart_19 hM (by omega) ?_
    refine r_istore dX12_candidateStart_20 (by decide) rfl ?_
    refine r_iload_n dX12_candidateStart_22 rfl rfl ?_
    refine r_aload_n dX12_candidateStart_23 rfl rfl ?_
    refine s_getR dX12_candidateStart_24 fX12_9 lysX12 rfl ?_
    refine n_const 2 dX12_candidateStart_27 (by decide) ?_
    refine r_aload_n dX12_candidateStart_28 rfl rfl ?_
    refine s_getR dX12_candidateStart_29 fX12_9 lysX12 rfl ?_
    refine n_bip 42 dX12_candidateStart_32 (by decide) ?_
    refine r_iload_n dX12_candidateStart_34 rfl rfl ?_
    refine n_add dX12_candidateStart_35 ?_
    refine m_ld dX12_candidateStart_36 hM (by omega) ?_
    refine n_add dX12_candidateStart_37 ?_
    refine m_ld dX12_candidateStart_38 hM (by omega) ?_
    refine r_mmax dX12_candidateStart_39 kwM_X12_max kwM_static_max kwM_ini kwM_code_max (by decide) (Nat.le_of_ble_eq_true rfl) ?_
    rw [nI_max (by omega) (by omega)]
    refine r_istore dX12_candidateStart_42 (by decide) rfl ?_
    refine r_aload_n dX12_candidateStart_44 rfl rfl ?_
    refine r_iload_n dX12_candidateStart_45 rfl rfl ?_
    refine s_V1I mX12_before dX12_candidateStart_46 okX12_before lX12_151 npX12_before lysX12 rfl (by decide) (by decide) (by decide) (Nat.le_of_ble_eq_true rfl) (Nat.le_of_ble_eq_true rfl) (d_before hM hw hk.1) (fun x s1 hq => ?_)
    obtain ⟨rfl, e9⟩ := hq
    have e9 : x = nI (x_pv X k) := e9.trans (by rw [if_neg e0]; rfl)
    subst e9
    refine r_istore dX12_candidateStart_49 (by decide) rfl ?_
    refine r_iload dX12_candidateStart_51 rfl ?_
    refine r_iconst (v := -1) dX12_candidateStart_53 (by decide) ?_
    refine r_icmp_ne (tgt := 62) dX12_candidateStart_54 (by decide) (fun c54 => ?_) (fun c54 => ?_)
    · refine r_iload dX12_candidateStart_62 rfl ?_
      refine r_aload_n dX12_candidateStart_64 rfl rfl ?_
      refine s_getR dX12_candidateStart_65 fX12_46 lysX12 rfl ?_
      refine r_iload dX12_candidateStart_68 rfl ?_
      refine a_ld dX12_candidateStart_70 rfl (by omega) (by decide) (hE _ h4.1 h4.2.1) ?_
      refine r_aload_n dX12_candidateStart_71 rfl rfl ?_
      refine s_getR dX12_candidateStart_72 fX12_9 lysX12 rfl ?_
      refine n_bip 82 dX12_candidateStart_75 (by decide) ?_
      refine r_iload dX12_candidateStart_77 rfl ?_
      refine n_add dX12_candidateStart_79 ?_
      refine m_ld dX12_candidateStart_80 hM (by omega) ?_
      refine n_add dX12_candidateStart_81 ?_
      refine r_mmax dX12_candidateStart_82 kwM_X12_max kwM_static_max kwM_ini kwM_code_max (by decide) (Nat.le_of_ble_eq_true rfl) ?_
      rw [nI_max (by omega) (by omega)]
      refine r_istore dX12_candidateStart_85 (by decide) rfl ?_
      refine r_iload dX12_candidateStart_87 rfl ?_
      refine n_ifle (tgt := 136) dX12_candidateStart_89 (by decide) (by omega) (fun c89 => ?_) (fun c89 => ?_)
      · have hls : x_ls X k = none := by unfold x_ls; rw [if_pos (by omega)]
        have hlt : x_lt X fx k (x_ls X k) = 0 := by rw [hls]; rfl
        refine r_aload_n dX12_candidateStart_136 rfl rfl ?_
        refine r_iload_n dX12_candidateStart_137 rfl rfl ?_
        refine r_iload dX12_candidateStart_138 rfl ?_
        refine r_aload_n dX12_candidateStart_140 rfl rfl ?_
        refine s_getR dX12_candidateStart_141 fX12_9 lysX12 rfl ?_
        refine n_bip 82 dX12_candidateStart_144 (by decide) ?_
        refine r_iload_n dX12_candidateStart_146 rfl rfl ?_
        refine n_add dX12_candidateStart_147 ?_
        refine m_ld dX12_candidateStart_148 hM (by omega) ?_
        refine s_V3I mX12_free dX12_candidateStart_149 okX12_free lX12_178 npX12_free lysX12 rfl (by decide) (by decide) (by decide) (Nat.le_of_ble_eq_true rfl) (Nat.le_of_ble_eq_true rfl) (d_free hM hw (by omega) (by omega) (by omega)) (fun x s1 hq => ?_)
        obtain ⟨rfl, rfl⟩ := hq
        refine s_iret dX12_candidateStart_152 rfl rfl ?_
        refine ⟨_, rfl, rfl, ?_⟩
        unfold x_cs x_cr
        rw [if_neg e0, hlt]
        congr 2
        omega
      · have hls : x_ls X k = some (X (183 + 5 * X (62 + k) + (X (179 + X (62 + k)) - 1))) := by unfold x_ls; rw [if_neg (by omega)]
        have hlt : x_lt X fx k (x_ls X k) = fx (X (183 + 5 * X (62 + k) + (X (179 + X (62 + k)) - 1))) + X (82 + (X (183 + 5 * X (62 + k) + (X (179 + X (62 + k)) - 1)))) + X (142 + 3 * X (102 + (X (183 + 5 * X (62 + k) + (X (179 + X (62 + k)) - 1)))) + X (102 + k)) := by rw [hls]; rfl
        have hls2 := y_ls h hk.1 hls
        have hls21 := hls2.1
        have hls3 := (h.2.1 _ hls2.1 hls2.2).2.1
        have hlo := y_op hw hls2.1
        have hsu := y_su hw (f := X (102 + (X (183 + 5 * X (62 + k) + (X (179 + X (62 + k)) - 1))))) (g := X (102 + k)) (by omega) (by omega)
        refine r_aload_n dX12_candidateStart_92 rfl rfl ?_
        refine r_iload_n dX12_candidateStart_93 rfl rfl ?_
        refine r_iload dX12_candidateStart_94 rfl ?_
        refine n_const 1 dX12_candidateStart_96 (by decide) ?_
        refine n_sub dX12_candidateStart_97 (by omega) ?_
        refine s_V2I mX12_ordered dX12_candidateStart_98 okX12_ordered lX12_142 npX12_ordered lysX12 rfl (by decide) (by decide) (by decide) (Nat.le_of_ble_eq_true rfl) (Nat.le_of_ble_eq_true rfl) (c_ordered hM (by omega) (by omega)) (fun x s1 hq => ?_)
        obtain ⟨rfl, rfl⟩ := hq
        refine r_istore dX12_candidateStart_101 (by decide) rfl ?_
        refine r_iload dX12_candidateStart_103 rfl ?_
        refine r_aload_n dX12_candidateStart_105 rfl rfl ?_
        refine s_getR dX12_candidateStart_106 fX12_46 lysX12 rfl ?_
        refine r_iload dX12_candidateStart_109 rfl ?_
        refine a_ld dX12_candidateStart_111 rfl (by omega) (by decide) (hE _ hls2.1 hls2.2) ?_
        refine r_aload_n dX12_candidateStart_112 rfl rfl ?_
        refine s_getR dX12_candidateStart_113 fX12_9 lysX12 rfl ?_
        refine n_bip 82 dX12_candidateStart_116 (by decide) ?_
        refine r_iload dX12_candidateStart_118 rfl ?_
        refine n_add dX12_candidateStart_120 ?_
        refine m_ld dX12_candidateStart_121 hM (by omega) ?_
        refine n_add dX12_candidateStart_122 ?_
        refine r_aload_n dX12_candidateStart_123 rfl rfl ?_
        refine r_iload dX12_candidateStart_124 rfl ?_
        refine r_iload_n dX12_candidateStart_126 rfl rfl ?_
        refine s_V2I mX12_setup dX12_candidateStart_127 okX12_setup lX12_172 npX12_setup lysX12 rfl (by decide) (by decide) (by decide) (Nat.le_of_ble_eq_true rfl) (Nat.le_of_ble_eq_true rfl) (c_setup hM (by omega) (by omega) (by omega) (by omega)) (fun x s1 hq => ?_)
        obtain ⟨rfl, rfl⟩ := hq
        refine n_add dX12_candidateStart_130 ?_
        refine r_mmax dX12_candidateStart_131 kwM_X12_max kwM_static_max kwM_ini kwM_code_max (by decide) (Nat.le_of_ble_eq_true rfl) ?_
        rw [nI_max (by omega) (by omega)]
        refine r_istore dX12_candidateStart_134 (by decide) rfl ?_
        refine r_aload_n dX12_candidateStart_136 rfl rfl ?_
        refine r_iload_n dX12_candidateStart_137 rfl rfl ?_
        refine r_iload dX12_candidateStart_138 rfl ?_
        refine r_aload_n dX12_candidateStart_140 rfl rfl ?_
        refine s_getR dX12_candidateStart_141 fX12_9 lysX12 rfl ?_
        refine n_bip 82 dX12_candidateStart_144 (by decide) ?_
        refine r_iload_n dX12_candidateStart_146 rfl rfl ?_
        refine n_add dX12_candidateStart_147 ?_
        refine m_ld dX12_candidateStart_148 hM (by omega) ?_
        refine s_V3I mX12_free dX12_candidateStart_149 okX12_free lX12_178 npX12_free lysX12 rfl (by decide) (by decide) (by decide) (Nat.le_of_ble_eq_true rfl) (Nat.le_of_ble_eq_true rfl) (d_free hM hw (by omega) (by omega) (by omega)) (fun x s1 hq => ?_)
        obtain ⟨rfl, rfl⟩ := hq
        refine s_iret dX12_candidateStart_152 rfl rfl ?_
        refine ⟨_, rfl, rfl, ?_⟩
        unfold x_cs x_cr
        rw [if_neg e0, hlt]
        congr 2
        omega
    · exact absurd c54 (nI_m1 (by omega))
set_option maxRecDepth 20000 in
set_option maxHeartbeats 1000000 in
theorem d_prefers {G : q_G} {s : s_T} {X : x_T} {rl a b : Nat} (hM : m_R X s) (hw : y_wf X) (ha : a < X 1) (hb : b < X 1) (hr : rl ≤ 3) : s_W G mX12_prefers 4 0 0 (c_I (fun y9 s1 => s1 = s ∧ y9 = bI (x_rv X rl a b))) 0 (q_ent mX12_prefers [.ref 212, .int (nI rl), .int (nI a), .int (nI b)]) [] s := by
  show s_W G mX12_prefers 4 0 0 _ 0 [some (.ref 212), some (.int (nI rl)), some (.int (nI a)), some (.int (nI b))] [] s
  have ha2 := y_op hw ha
  have hb2 := y_op hw hb
  have ha3 := y_jb hw ha2.2.2.1
  have hb3 := y_jb hw hb2.2.2.1
  have ra := (x_rs_tl hw ha).2
  have rb := (x_rs_tl hw hb).2
  rcases (show rl = 0 ∨ rl = 1 ∨ rl = 2 ∨ rl = 3 by omega) with rfl | rfl | rfl | rfl
  · refine r_iload_n dX12_prefers_0 rfl rfl ?_
    refine r_tabIn (tgt := 28) dX12_prefers_1 (by decide) (by decide) rfl (by decide) ?_
    refine r_aload_n dX12_prefers_28 rfl rfl ?_
    refine s_getR dX12_prefers_29 fX12_9 lysX12 rfl ?_
    refine n_bip 82 dX12_prefers_32 (by decide) ?_
    refine r_iload_n dX12_prefers_34 rfl rfl ?_
    refine n_add dX12_prefers_35 ?_
    refine m_ld dX12_prefers_36 hM (by omega) ?_
    refine r_aload_n dX12_prefers_37 rfl rfl ?_
    refine s_getR dX12_prefers_38 fX12_9 lysX12 rfl ?_
    refine n_bip 82 dX12_prefers_41 (by decide) ?_
    refine r_iload_n dX12_prefers_43 rfl rfl ?_
    refine n_add dX12_prefers_44 ?_
    refine m_ld dX12_prefers_45 hM (by omega) ?_
    refine n_cge (tgt := 53) dX12_prefers_46 (by decide) (by omega) (by omega) (fun c46 => ?_) (fun c46 => ?_)
    · refine n_const 0 dX12_prefers_53 (by decide) ?_
      refine s_iret dX12_prefers_54 rfl rfl ?_
      refine ⟨_, rfl, rfl, ?_⟩
      show _ = bI (decide (X (82 + a) < X (82 + b)))
      first
        | (rw [decide_eq_true (by omega)]; rfl)
        | (rw [decide_eq_false (by omega)]; rfl)
    · refine n_const 1 dX12_prefers_49 (by decide) ?_
      refine r_goto (tgt := 54) dX12_prefers_50 (by decide) ?_
      refine s_iret dX12_prefers_54 rfl rfl ?_
      refine ⟨_, rfl, rfl, ?_⟩
      show _ = bI (decide (X (82 + a) < X (82 + b)))
      first
        | (rw [decide_eq_true (by omega)]; rfl)
        | (rw [decide_eq_false (by omega)]; rfl)
  · refine r_iload_n dX12_prefers_0 rfl rfl ?_
    refine r_tabIn (tgt := 55) dX12_prefers_1 (by decide) (by decide) rfl (by decide) ?_
    refine r_aload_n dX12_prefers_55 rfl rfl ?_
    refine r_iload_n dX12_prefers_56 rfl rfl ?_
    refine s_V1I mX12_restOf dX12_prefers_57 okX12_restOf lX12_232 npX12_restOf lysX12 rfl (by decide) (by decide) (by decide) (Nat.le_of_ble_eq_true rfl) (Nat.le_of_ble_eq_true rfl) (d_restOf hM hw ha) (fun x s1 hq => ?_)
    obtain ⟨rfl, rfl⟩ := hq
    refine r_aload_n dX12_prefers_60 rfl rfl ?_
    refine r_iload_n dX12_prefers_61 rfl rfl ?_
    refine s_V1I mX12_restOf dX12_prefers_62 okX12_restOf lX12_232 npX12_restOf lysX12 rfl (by decide) (by decide) (by decide) (Nat.le_of_ble_eq_true rfl) (Nat.le_of_ble_eq_true rfl) (d_restOf hM hw hb) (fun x s1 hq => ?_)
    obtain ⟨rfl, rfl⟩ := hq
    refine n_cle (tgt := 72) dX12_prefers_65 (by decide) (by omega) (by omega) (fun c65 => ?_) (fun c65 => ?_)
    · refine n_const 0 dX12_prefers_72 (by decide) ?_
      refine s_iret dX12_prefers_73 rfl rfl ?_
      refine ⟨_, rfl, rfl, ?_⟩
      show _ = bI (decide (x_rs X b < x_rs X a))
      first
        | (rw [decide_eq_true (by omega)]; rfl)
        | (rw [decide_eq_false (by omega)]; rfl)
    · refine n_const 1 dX12_prefers_68 (by decide) ?_
      refine r_goto (tgt := 73) dX12_prefers_69 (by decide) ?_
      refine s_iret dX12_prefers_73 rfl rfl ?_
      refine ⟨_, rfl, rfl, ?_⟩
      show _ = bI (decide (x_rs X b < x_rs X a))
      first
        | (rw [decide_eq_true (by omega)]; rfl)
        | (rw [decide_eq_false (by omega)]; rfl)
  · refine r_iload_n dX12_prefers_0 rfl rfl ?_
    refine r_tabIn (tgt := 74) dX12_prefers_1 (by decide) (by decide) rfl (by decide) ?_
    refine r_aload_n dX12_prefers_74 rfl rfl ?_
    refine s_getR dX12_prefers_75 fX12_9 lysX12 rfl ?_
    refine n_bip 7 dX12_prefers_78 (by decide) ?_
    refine r_aload_n dX12_prefers_80 rfl rfl ?_
    refine s_getR dX12_prefers_81 fX12_9 lysX12 rfl ?_
    refine n_bip 42 dX12_prefers_84 (by decide) ?_
    refine r_iload_n dX12_prefers_86 rfl rfl ?_
    refine n_add dX12_prefers_87 ?_
    refine m_ld dX12_prefers_88 hM (by omega) ?_
    refine n_add dX12_prefers_89 ?_
    refine m_ld dX12_prefers_90 hM (by omega) ?_
    refine r_aload_n dX12_prefers_91 rfl rfl ?_
    refine s_getR dX12_prefers_92 fX12_9 lysX12 rfl ?_
    refine n_bip 7 dX12_prefers_95 (by decide) ?_
    refine r_aload_n dX12_prefers_97 rfl rfl ?_
    refine s_getR dX12_prefers_98 fX12_9 lysX12 rfl ?_
    refine n_bip 42 dX12_prefers_101 (by decide) ?_
    refine r_iload_n dX12_prefers_103 rfl rfl ?_
    refine n_add dX12_prefers_104 ?_
    refine m_ld dX12_prefers_105 hM (by omega) ?_
    refine n_add dX12_prefers_106 ?_
    refine m_ld dX12_prefers_107 hM (by omega) ?_
    refine n_cge (tgt := 115) dX12_prefers_108 (by decide) (by omega) (by omega) (fun c108 => ?_) (fun c108 => ?_)
    · refine n_const 0 dX12_prefers_115 (by decide) ?_
      refine s_iret dX12_prefers_116 rfl rfl ?_
      refine ⟨_, rfl, rfl, ?_⟩
      show _ = bI (decide (X (7 + X (42 + a)) < X (7 + X (42 + b))))
      first
        | (rw [decide_eq_true (by omega)]; rfl)
        | (rw [decide_eq_false (by omega)]; rfl)
    · refine n_const 1 dX12_prefers_111 (by decide) ?_
      refine r_goto (tgt := 116) dX12_prefers_112 (by decide) ?_
      refine s_iret dX12_prefers_116 rfl rfl ?_
      refine ⟨_, rfl, rfl, ?_⟩
      show _ = bI (decide (X (7 + X (42 + a)) < X (7 + X (42 + b))))
      first
        | (rw [decide_eq_true (by omega)]; rfl)
        | (rw [decide_eq_false (by omega)]; rfl)
  · refine r_iload_n dX12_prefers_0 rfl rfl ?_
    refine r_tabOut (tgt := 117) dX12_prefers_1 (by decide) (by decide) ?_
    refine n_const 0 dX12_prefers_117 (by decide) ?_
    refine s_iret dX12_prefers_118 rfl rfl ?_
    exact ⟨_, rfl, rfl, rfl⟩
set_option maxRecDepth 20000 in
set_option maxHeartbeats 1000000 in
theorem d_mBuild {G : q_G} {s : s_T} {X0 : x_T} {g0 fx0 rk : Nat → Nat} {c T rl : Nat} (hM0 : m_R X0 s) (h0 : y_iv X0 g0 fx0 rk c) (hT : T ≤ 999) (hr : rl ≤ 3) (hE0 : ∀ q, q < X0 1 → y_K X0 g0 q = true → s 223 q = nI (fx0 q)) (hg0 : ∀ j, j < 5 → s 222 j = nI (g0 j)) : s_W G mX12_build 5 0 0 (c_V (fun s1 => m_R (x_bu T rl 20 X0 g0 fx0) s1 ∧ (∀ k, k ≠ 213 → k ≠ 222 → k ≠ 223 → s1 k = s k))) 0 (q_ent mX12_build [.ref 212, .int (nI rl), .int (nI T)]) [] s := by
  show s_W G mX12_build 5 0 0 _ 0 [some (.ref 212), some (.int (nI rl)), some (.int (nI T)), none, none, none, none, none, none] [] s
  have hs0 := y_sz h0.1.1
  obtain ⟨XE, hX0⟩ : ∃ XE, x_bu T rl 20 X0 g0 fx0 = XE := ⟨_, rfl⟩
  have lp : ∀ f X g fx rk c u1 (L4 : Option Value) (L5 : Option Value) (L6 : Option Value) (L7 : Option Value) (L8 : Option Value), m_R X u1 → y_iv X g fx rk c → (∀ q, q < X 1 → y_K X g q = true → u1 223 q = nI (fx q)) → (∀ j, j < 5 → u1 222 j = nI (g j)) → (∀ k, k ≠ 213 → k ≠ 222 → k ≠ 223 → u1 k = s k) → x_bu T rl (f - 1) X g fx = XE → X 1 = X0 1 → X0 1 < c + f → s_W G mX12_build 5 0 0 (c_V (fun s1 => m_R (x_bu T rl 20 X0 g0 fx0) s1 ∧ (∀ k, k ≠ 213 → k ≠ 222 → k ≠ 223 → s1 k = s k))) 2 [some (.ref 212), some (.int (nI rl)), some (.int (nI T)), some (.int (nI 1)), L4, L5, L6, L7, L8] [] u1 := by
    intro f
    induction f with
    | zero =>
      intro X g fx rk c u1 L4 L5 L6 L7 L8 hM h hE hgv hf hX hX1 hme
      have h9 := x_ct_le (K := y_K X g) (X 1)
      have h8 := h.1.2.2
      exact absurd hme (by omega)
    | succ f ih =>
      intro X g fx rk c u1 L4 L5 L6 L7 L8 hM h hE hgv hf hX hX1 hme
      have hw := h.1.1
      have hs := y_sz hw
      have hc20 := y_c h
      refine r_iload_n dX12_build_2 rfl rfl ?_
      refine n_ifeq (tgt := 209) dX12_build_3 (by decide) (by omega) (fun c3 => ?_) (fun c3 => ?_)
      · exact absurd c3 (by decide)
      · refine r_iconst (v := -1) dX12_build_6 (by decide) ?_
        refine r_istore dX12_build_7 (by decide) rfl ?_
        refine n_const 0 dX12_build_9 (by decide) ?_
        refine r_istore dX12_build_10 (by decide) rfl ?_
        refine n_const 0 dX12_build_12 (by decide) ?_
        refine r_istore dX12_build_13 (by decide) rfl ?_
        have l2 : ∀ f2 j bs (L7 : Option Value) (L8 : Option Value), (∀ b, x_cz X g fx T rl j = some b → bs = x_cs X fx T b) → bs ≤ 100000 → j ≤ X 0 → X 0 < j + f2 → s_W G mX12_build 5 0 0 (c_V (fun s1 => m_R (x_bu T rl 20 X0 g0 fx0) s1 ∧ (∀ k, k ≠ 213 → k ≠ 222 → k ≠ 223 → s1 k = s k))) 15 [some (.ref 212), some (.int (nI rl)), some (.int (nI T)), some (.int (nI 1)), some (.int (oI (x_cz X g fx T rl j))), some (.int (nI bs)), some (.int (nI j)), L7, L8] [] u1 := by
          intro f2
          induction f2 with
          | zero =>
            intro j bs L7 L8 hbs hbs2 hj hme
            exact absurd hme (by omega)
          | succ f2 ih2 =>
            intro j bs L7 L8 hbs hbs2 hj hme
            cases hbq : x_cz X g fx T rl j with
            | none =>
              show s_W G mX12_build 5 0 0 _ 15 [some (.ref 212), some (.int (nI rl)), some (.int (nI T)), some (.int (nI 1)), some (.int (-1)), some (.int (nI bs)), some (.int (nI j)), L7, L8] [] u1
              refine r_iload dX12_build_15 rfl ?_
              refine r_aload_n dX12_build_17 rfl rfl ?_
              refine s_getR dX12_build_18 fX12_9 lysX12 rfl ?_
              refine n_const 0 dX12_build_21 (by decide) ?_
              refine m_ld dX12_build_22 hM (by omega) ?_
              refine n_cge (tgt := 116) dX12_build_23 (by decide) (by omega) (by omega) (fun c23 => ?_) (fun c23 => ?_)
              · have e9 : j = X 0 := by omega
                subst e9
                refine r_iload dX12_build_116 rfl ?_
                refine r_iconst (v := -1) dX12_build_118 (by decide) ?_
                refine r_icmp_eq (tgt := 126) dX12_build_119 (by decide) (fun c119 => ?_) (fun c119 => ?_)
                · refine n_const 0 dX12_build_126 (by decide) ?_
                  refine r_istore_n dX12_build_127 rfl (by decide) rfl ?_
                  refine r_iload_n dX12_build_128 rfl rfl ?_
                  refine n_ifeq (tgt := 206) dX12_build_129 (by decide) (by omega) (fun c129 => ?_) (fun c129 => ?_)
                  · refine r_goto (tgt := 2) dX12_build_206 (by decide) ?_
                    refine r_iload_n dX12_build_2 rfl rfl ?_
                    refine n_ifeq (tgt := 209) dX12_build_3 (by decide) (by omega) (fun c3 => ?_) (fun c3 => ?_)
                    · refine s_vret dX12_build_209 rfl ?_
                      refine ⟨rfl, ?_, hf⟩
                      rw [hX0, ← hX, show f + 1 - 1 = f from rfl, x_bu_n hbq f]
                      exact hM
                    · exact absurd c3 (by decide)
                  · exact absurd c129 (by decide)
                · exact absurd rfl c119
              · have hjb := y_jb hw c23
                have hgj := h.1.2.1 j c23
                refine r_aload_n dX12_build_26 rfl rfl ?_
                refine s_getR dX12_build_27 fX12_43 lysX12 rfl ?_
                refine r_iload dX12_build_30 rfl ?_
                refine a_ld dX12_build_32 rfl (by omega) (by decide) (hgv _ (by omega)) ?_
                refine r_aload_n dX12_build_33 rfl rfl ?_
                refine s_getR dX12_build_34 fX12_9 lysX12 rfl ?_
                refine n_bip 17 dX12_build_37 (by decide) ?_
                refine r_iload dX12_build_39 rfl ?_
                refine n_add dX12_build_41 ?_
                refine m_ld dX12_build_42 hM (by omega) ?_
                refine n_cge (tgt := 110) dX12_build_43 (by decide) (by omega) (by omega) (fun c43 => ?_) (fun c43 => ?_)
                · refine n_inc dX12_build_110 rfl (n_i1 _) (by decide) rfl ?_
                  refine r_goto (tgt := 15) dX12_build_113 (by decide) ?_
                  have q9 := fun bs L7 L8 => ih2 (j + 1) bs L7 L8
                  first
                    | (rw [x_cz_no (X := X) (g := g) (fx := fx) (T := T) (rl := rl) (n := j) (by omega), hbq] at q9; exact q9 bs _ _ (fun b z => by cases z) (by omega) (by omega) (by omega))
                    | (rw [x_cz_n (X := X) (g := g) (fx := fx) (T := T) (rl := rl) (n := j) (by omega) hbq] at q9; exact q9 _ _ _ (fun b z => by cases z; rfl) (by omega) (by omega) (by omega))
                · have hcd : y_cd X g (X (22 + 4 * j + g j)) := y_cj hw c23 c43
                  have hcs := y_cs h hcd hT
                  have hcd1 := hcd.1
                  refine r_aload_n dX12_build_46 rfl rfl ?_
                  refine r_iload dX12_build_47 rfl ?_
                  refine r_aload_n dX12_build_49 rfl rfl ?_
                  refine s_getR dX12_build_50 fX12_43 lysX12 rfl ?_
                  refine r_iload dX12_build_53 rfl ?_
                  refine a_ld dX12_build_55 rfl (by omega) (by decide) (hgv _ (by omega)) ?_
                  refine s_V2I mX12_sequence dX12_build_56 okX12_sequence lX12_110 npX12_sequence lysX12 rfl (by decide) (by decide) (by decide) (Nat.le_of_ble_eq_true rfl) (Nat.le_of_ble_eq_true rfl) (c_sequence hM (by omega) (by omega)) (fun x s1 hq => ?_)
                  obtain ⟨rfl, rfl⟩ := hq
                  refine r_istore dX12_build_59 (by decide) rfl ?_
                  refine r_aload_n dX12_build_61 rfl rfl ?_
                  refine r_iload dX12_build_62 rfl ?_
                  refine r_iload_n dX12_build_64 rfl rfl ?_
                  refine s_V2I mX12_candidateStart dX12_build_65 okX12_candidateStart lX12_235 npX12_candidateStart lysX12 rfl (by decide) (by decide) (by decide) (Nat.le_of_ble_eq_true rfl) (Nat.le_of_ble_eq_true rfl) (d_candidateStart hM h hcd hT hE) (fun x s1 hq => ?_)
                  obtain ⟨rfl, rfl⟩ := hq
                  refine r_istore dX12_build_68 (by decide) rfl ?_
                  refine r_iload dX12_build_70 rfl ?_
                  refine r_iconst (v := -1) dX12_build_72 (by decide) ?_
                  refine r_icmp_eq (tgt := 102) dX12_build_73 (by decide) (fun c73 => ?_) (fun c73 => ?_)
                  · refine r_iload dX12_build_102 rfl ?_
                    refine r_istore dX12_build_104 (by decide) rfl ?_
                    refine r_iload dX12_build_106 rfl ?_
                    refine r_istore dX12_build_108 (by decide) rfl ?_
                    refine n_inc dX12_build_110 rfl (n_i1 _) (by decide) rfl ?_
                    refine r_goto (tgt := 15) dX12_build_113 (by decide) ?_
                    have q9 := fun bs L7 L8 => ih2 (j + 1) bs L7 L8
                    first
                      | (rw [x_cz_no (X := X) (g := g) (fx := fx) (T := T) (rl := rl) (n := j) (by omega), hbq] at q9; exact q9 bs _ _ (fun b z => by cases z) (by omega) (by omega) (by omega))
                      | (rw [x_cz_n (X := X) (g := g) (fx := fx) (T := T) (rl := rl) (n := j) (by omega) hbq] at q9; exact q9 _ _ _ (fun b z => by cases z; rfl) (by omega) (by omega) (by omega))
                  · exact absurd rfl c73
            | some b =>
              show s_W G mX12_build 5 0 0 _ 15 [some (.ref 212), some (.int (nI rl)), some (.int (nI T)), some (.int (nI 1)), some (.int (nI b)), some (.int (nI bs)), some (.int (nI j)), L7, L8] [] u1
              have hbc := y_cz hw hj hbq
              have hbs1 := hbs b hbq
              have hb1 := hbc.1
              have hbl := y_cs h hbc hT
              refine r_iload dX12_build_15 rfl ?_
              refine r_aload_n dX12_build_17 rfl rfl ?_
              refine s_getR dX12_build_18 fX12_9 lysX12 rfl ?_
              refine n_const 0 dX12_build_21 (by decide) ?_
              refine m_ld dX12_build_22 hM (by omega) ?_
              refine n_cge (tgt := 116) dX12_build_23 (by decide) (by omega) (by omega) (fun c23 => ?_) (fun c23 => ?_)
              · have e9 : j = X 0 := by omega
                subst e9
                have hbc := y_cz hw (Nat.le_refl _) hbq
                have hbc1 := hbc.1
                have hbo := y_op hw hbc1
                have hm4 := hbo.2.2.2.2.2.2.1
                have hr5 := y_room h hbc
                have hbl := y_cs h hbc hT
                have hbs1 := hbs b hbq
                subst hbs1
                have hgl := h.1.2.1 _ hbo.2.2.1
                obtain ⟨f', hf'⟩ : ∃ f', f = f' + 1 := by
                  cases f with
                  | zero => exact absurd (y_full_n (T := T) (rl := rl) h (by omega)) (by rw [hbq]; exact fun z => by cases z)
                  | succ f' => exact ⟨f', rfl⟩
                subst hf'
                refine r_iload dX12_build_116 rfl ?_
                refine r_iconst (v := -1) dX12_build_118 (by decide) ?_
                refine r_icmp_eq (tgt := 126) dX12_build_119 (by decide) (fun c119 => ?_) (fun c119 => ?_)
                · exact absurd c119 (nI_m1 (by omega))
                · refine n_const 1 dX12_build_122 (by decide) ?_
                  refine r_goto (tgt := 127) dX12_build_123 (by decide) ?_
                  refine r_istore_n dX12_build_127 rfl (by decide) rfl ?_
                  refine r_iload_n dX12_build_128 rfl rfl ?_
                  refine n_ifeq (tgt := 206) dX12_build_129 (by decide) (by omega) (fun c129 => ?_) (fun c129 => ?_)
                  · exact absurd c129 (by decide)
                  · refine r_aload_n dX12_build_132 rfl rfl ?_
                    refine s_getR dX12_build_133 fX12_46 lysX12 rfl ?_
                    refine r_iload dX12_build_136 rfl ?_
                    refine r_iload dX12_build_138 rfl ?_
                    refine a_st dX12_build_140 rfl (by omega) (by decide) (fun s2 hs2 hf2 => ?_)
                    replace hM := m_R_fr hM hf2 (Or.inl (by omega))
                    refine r_aload_n dX12_build_141 rfl rfl ?_
                    refine s_getR dX12_build_142 fX12_9 lysX12 rfl ?_
                    refine n_bip 62 dX12_build_145 (by decide) ?_
                    refine r_iload dX12_build_147 rfl ?_
                    refine n_add dX12_build_149 ?_
                    refine m_ld dX12_build_150 hM (by omega) ?_
                    try simp (disch := omega) only [va_up_n, va_up_s]
                    refine r_istore dX12_build_151 (by decide) rfl ?_
                    refine r_aload_n dX12_build_153 rfl rfl ?_
                    refine r_iload dX12_build_154 rfl ?_
                    refine r_aload_n dX12_build_156 rfl rfl ?_
                    refine s_getR dX12_build_157 fX12_9 lysX12 rfl ?_
                    refine n_sip 179 dX12_build_160 (by decide) ?_
                    refine r_iload dX12_build_163 rfl ?_
                    refine n_add dX12_build_165 ?_
                    refine m_ld dX12_build_166 hM (by omega) ?_
                    try simp (disch := omega) only [va_up_n, va_up_s]
                    refine r_iload dX12_build_167 rfl ?_
                    refine s_V3V mX12_setOrdered dX12_build_169 okX12_setOrdered lX12_114 npX12_setOrdered lysX12 rfl (by decide) (by decide) (by decide) (Nat.le_of_ble_eq_true rfl) (Nat.le_of_ble_eq_true rfl) (c_setOrdered hM (by omega) (by omega)) (fun s1 hq => ?_)
                    obtain ⟨hM, hf3⟩ := hq
                    refine r_aload_n dX12_build_172 rfl rfl ?_
                    refine s_getR dX12_build_173 fX12_9 lysX12 rfl ?_
                    refine n_sip 179 dX12_build_176 (by decide) ?_
                    refine r_iload dX12_build_179 rfl ?_
                    refine n_add dX12_build_181 ?_
                    refine r_dup2 dX12_build_182 rfl rfl ?_
                    refine m_ld dX12_build_183 hM (by omega) ?_
                    try simp (disch := omega) only [va_up_n, va_up_s]
                    refine n_const 1 dX12_build_184 (by decide) ?_
                    refine n_add dX12_build_185 ?_
                    refine m_st dX12_build_186 hM (by omega) (fun s hM hf1 => ?_)
                    skip
                    refine r_aload_n dX12_build_187 rfl rfl ?_
                    refine s_getR dX12_build_188 fX12_43 lysX12 rfl ?_
                    refine r_aload_n dX12_build_191 rfl rfl ?_
                    refine s_getR dX12_build_192 fX12_9 lysX12 rfl ?_
                    refine n_bip 42 dX12_build_195 (by decide) ?_
                    refine r_iload dX12_build_197 rfl ?_
                    refine n_add dX12_build_199 ?_
                    refine m_ld dX12_build_200 hM (by omega) ?_
                    try simp (disch := omega) only [va_up_n, va_up_s]
                    refine r_dup2 dX12_build_201 rfl rfl ?_
                    refine a_ld dX12_build_202 rfl (by omega) (by decide) (show s 222 (X (42 + b)) = nI (g (X (42 + b))) by rw [hf1 222 (by omega), hf3 222 (by omega), hf2 222 (by omega)]; exact hgv _ (by omega)) ?_
                    refine n_const 1 dX12_build_203 (by decide) ?_
                    refine n_add dX12_build_204 ?_
                    refine a_st dX12_build_205 rfl (by omega) (by decide) (fun s5 hs5 hf5 => ?_)
                    refine r_goto (tgt := 2) dX12_build_206 (by decide) ?_
                    have hs := y_sz hw
                    have e1 : x_ad X b 1 = X 1 := y_ad_lo (by omega)
                    refine ih (x_ad X b) _ _ _ (c + 1) s5 _ _ _ _ _ (m_R_fr (X := x_ad X b) hM hf5 (Or.inl (by omega))) (y_iv_s h hbc hT) (fun q hq hqK => ?_) (fun j hj5 => ?_) (fun k h1 h2 h3 => ?_) ?_ (e1.trans hX1) (by omega)
                    · rw [e1] at hq
                      rw [y_K_ad hw hbc hq] at hqK
                      rw [hf5 223 (by omega), hf1 223 (by omega), hf3 223 (by omega), hs2]
                      by_cases e : q = b
                      · subst e; rw [pk_us, va_up_s]
                      · rw [va_up_n e] at hqK ⊢; rw [pk_un e]; exact hE q hq hqK
                    · rw [hs5]
                      by_cases e : j = X (42 + b)
                      · subst e; rw [pk_us, va_up_s]
                      · rw [pk_un e, va_up_n e, hf1 222 (by omega), hf3 222 (by omega), hf2 222 (by omega)]; exact hgv j hj5
                    · rw [hf5 k (by omega), hf1 k (by omega), hf3 k (by omega), hf2 k (by omega)]; exact hf k h1 h2 h3
                    · rw [← hX]; exact (x_bu_s hbq).symm
              · have hjb := y_jb hw c23
                have hgj := h.1.2.1 j c23
                refine r_aload_n dX12_build_26 rfl rfl ?_
                refine s_getR dX12_build_27 fX12_43 lysX12 rfl ?_
                refine r_iload dX12_build_30 rfl ?_
                refine a_ld dX12_build_32 rfl (by omega) (by decide) (hgv _ (by omega)) ?_
                refine r_aload_n dX12_build_33 rfl rfl ?_
                refine s_getR dX12_build_34 fX12_9 lysX12 rfl ?_
                refine n_bip 17 dX12_build_37 (by decide) ?_
                refine r_iload dX12_build_39 rfl ?_
                refine n_add dX12_build_41 ?_
                refine m_ld dX12_build_42 hM (by omega) ?_
                refine n_cge (tgt := 110) dX12_build_43 (by decide) (by omega) (by omega) (fun c43 => ?_) (fun c43 => ?_)
                · refine n_inc dX12_build_110 rfl (n_i1 _) (by decide) rfl ?_
                  refine r_goto (tgt := 15) dX12_build_113 (by decide) ?_
                  have q9 := fun bs L7 L8 => ih2 (j + 1) bs L7 L8
                  first
                    | (rw [x_cz_no (X := X) (g := g) (fx := fx) (T := T) (rl := rl) (n := j) (by omega), hbq] at q9; exact q9 bs _ _ (fun b z => by cases z; exact hbs _ hbq) (by omega) (by omega) (by omega))
                    | (rw [(x_cz_y (X := X) (g := g) (fx := fx) (T := T) (rl := rl) (n := j) (by omega) hbq), if_pos (x_btd_1 (by omega))] at q9; exact q9 _ _ _ (fun b z => by cases z; rfl) (by omega) (by omega) (by omega))
                    | (rw [(x_cz_y (X := X) (g := g) (fx := fx) (T := T) (rl := rl) (n := j) (by omega) hbq), if_pos (x_btd_2 (by omega) c99)] at q9; exact q9 _ _ _ (fun b z => by cases z; rfl) (by omega) (by omega) (by omega))
                    | (rw [(x_cz_y (X := X) (g := g) (fx := fx) (T := T) (rl := rl) (n := j) (by omega) hbq), if_neg (x_btd_3 (by omega) (by omega))] at q9; exact q9 bs _ _ (fun b z => by cases z; exact hbs _ hbq) (by omega) (by omega) (by omega))
                    | (rw [(x_cz_y (X := X) (g := g) (fx := fx) (T := T) (rl := rl) (n := j) (by omega) hbq), if_neg (x_btd_4 (by omega) c99)] at q9; exact q9 bs _ _ (fun b z => by cases z; exact hbs _ hbq) (by omega) (by omega) (by omega))
                · have hcd : y_cd X g (X (22 + 4 * j + g j)) := y_cj hw c23 c43
                  have hcs := y_cs h hcd hT
                  have hcd1 := hcd.1
                  refine r_aload_n dX12_build_46 rfl rfl ?_
                  refine r_iload dX12_build_47 rfl ?_
                  refine r_aload_n dX12_build_49 rfl rfl ?_
                  refine s_getR dX12_build_50 fX12_43 lysX12 rfl ?_
                  refine r_iload dX12_build_53 rfl ?_
                  refine a_ld dX12_build_55 rfl (by omega) (by decide) (hgv _ (by omega)) ?_
                  refine s_V2I mX12_sequence dX12_build_56 okX12_sequence lX12_110 npX12_sequence lysX12 rfl (by decide) (by decide) (by decide) (Nat.le_of_ble_eq_true rfl) (Nat.le_of_ble_eq_true rfl) (c_sequence hM (by omega) (by omega)) (fun x s1 hq => ?_)
                  obtain ⟨rfl, rfl⟩ := hq
                  refine r_istore dX12_build_59 (by decide) rfl ?_
                  refine r_aload_n dX12_build_61 rfl rfl ?_
                  refine r_iload dX12_build_62 rfl ?_
                  refine r_iload_n dX12_build_64 rfl rfl ?_
                  refine s_V2I mX12_candidateStart dX12_build_65 okX12_candidateStart lX12_235 npX12_candidateStart lysX12 rfl (by decide) (by decide) (by decide) (Nat.le_of_ble_eq_true rfl) (Nat.le_of_ble_eq_true rfl) (d_candidateStart hM h hcd hT hE) (fun x s1 hq => ?_)
                  obtain ⟨rfl, rfl⟩ := hq
                  refine r_istore dX12_build_68 (by decide) rfl ?_
                  refine r_iload dX12_build_70 rfl ?_
                  refine r_iconst (v := -1) dX12_build_72 (by decide) ?_
                  refine r_icmp_eq (tgt := 102) dX12_build_73 (by decide) (fun c73 => ?_) (fun c73 => ?_)
                  · exact absurd c73 (nI_m1 (by omega))
                  · refine r_iload dX12_build_76 rfl ?_
                    refine r_iload dX12_build_78 rfl ?_
                    refine n_clt (tgt := 102) dX12_build_80 (by decide) (by omega) (by omega) (fun c80 => ?_) (fun c80 => ?_)
                    · refine r_iload dX12_build_102 rfl ?_
                      refine r_istore dX12_build_104 (by decide) rfl ?_
                      refine r_iload dX12_build_106 rfl ?_
                      refine r_istore dX12_build_108 (by decide) rfl ?_
                      refine n_inc dX12_build_110 rfl (n_i1 _) (by decide) rfl ?_
                      refine r_goto (tgt := 15) dX12_build_113 (by decide) ?_
                      have q9 := fun bs L7 L8 => ih2 (j + 1) bs L7 L8
                      first
                        | (rw [x_cz_no (X := X) (g := g) (fx := fx) (T := T) (rl := rl) (n := j) (by omega), hbq] at q9; exact q9 bs _ _ (fun b z => by cases z; exact hbs _ hbq) (by omega) (by omega) (by omega))
                        | (rw [(x_cz_y (X := X) (g := g) (fx := fx) (T := T) (rl := rl) (n := j) (by omega) hbq), if_pos (x_btd_1 (by omega))] at q9; exact q9 _ _ _ (fun b z => by cases z; rfl) (by omega) (by omega) (by omega))
                        | (rw [(x_cz_y (X := X) (g := g) (fx := fx) (T := T) (rl := rl) (n := j) (by omega) hbq), if_pos (x_btd_2 (by omega) c99)] at q9; exact q9 _ _ _ (fun b z => by cases z; rfl) (by omega) (by omega) (by omega))
                        | (rw [(x_cz_y (X := X) (g := g) (fx := fx) (T := T) (rl := rl) (n := j) (by omega) hbq), if_neg (x_btd_3 (by omega) (by omega))] at q9; exact q9 bs _ _ (fun b z => by cases z; exact hbs _ hbq) (by omega) (by omega) (by omega))
                        | (rw [(x_cz_y (X := X) (g := g) (fx := fx) (T := T) (rl := rl) (n := j) (by omega) hbq), if_neg (x_btd_4 (by omega) c99)] at q9; exact q9 bs _ _ (fun b z => by cases z; exact hbs _ hbq) (by omega) (by omega) (by omega))
                    · refine r_iload dX12_build_83 rfl ?_
                      refine r_iload dX12_build_85 rfl ?_
                      refine n_cne (tgt := 110) dX12_build_87 (by decide) (by omega) (by omega) (fun c87 => ?_) (fun c87 => ?_)
                      · refine n_inc dX12_build_110 rfl (n_i1 _) (by decide) rfl ?_
                        refine r_goto (tgt := 15) dX12_build_113 (by decide) ?_
                        have q9 := fun bs L7 L8 => ih2 (j + 1) bs L7 L8
                        first
                          | (rw [x_cz_no (X := X) (g := g) (fx := fx) (T := T) (rl := rl) (n := j) (by omega), hbq] at q9; exact q9 bs _ _ (fun b z => by cases z; exact hbs _ hbq) (by omega) (by omega) (by omega))
                          | (rw [(x_cz_y (X := X) (g := g) (fx := fx) (T := T) (rl := rl) (n := j) (by omega) hbq), if_pos (x_btd_1 (by omega))] at q9; exact q9 _ _ _ (fun b z => by cases z; rfl) (by omega) (by omega) (by omega))
                          | (rw [(x_cz_y (X := X) (g := g) (fx := fx) (T := T) (rl := rl) (n := j) (by omega) hbq), if_pos (x_btd_2 (by omega) c99)] at q9; exact q9 _ _ _ (fun b z => by cases z; rfl) (by omega) (by omega) (by omega))
                          | (rw [(x_cz_y (X := X) (g := g) (fx := fx) (T := T) (rl := rl) (n := j) (by omega) hbq), if_neg (x_btd_3 (by omega) (by omega))] at q9; exact q9 bs _ _ (fun b z => by cases z; exact hbs _ hbq) (by omega) (by omega) (by omega))
                          | (rw [(x_cz_y (X := X) (g := g) (fx := fx) (T := T) (rl := rl) (n := j) (by omega) hbq), if_neg (x_btd_4 (by omega) c99)] at q9; exact q9 bs _ _ (fun b z => by cases z; exact hbs _ hbq) (by omega) (by omega) (by omega))
                      · refine r_aload_n dX12_build_90 rfl rfl ?_
                        refine r_iload_n dX12_build_91 rfl rfl ?_
                        refine r_iload dX12_build_92 rfl ?_
                        refine r_iload dX12_build_94 rfl ?_
                        refine s_V3I mX12_prefers dX12_build_96 okX12_prefers lX12_238 npX12_prefers lysX12 rfl (by decide) (by decide) (by decide) (Nat.le_of_ble_eq_true rfl) (Nat.le_of_ble_eq_true rfl) (d_prefers hM hw (by assumption) (by assumption) hr) (fun x s1 hq => ?_)
                        obtain ⟨rfl, rfl⟩ := hq
                        refine b_ifeq (tgt := 110) dX12_build_99 (by decide) (fun c99 => ?_) (fun c99 => ?_)
                        · refine n_inc dX12_build_110 rfl (n_i1 _) (by decide) rfl ?_
                          refine r_goto (tgt := 15) dX12_build_113 (by decide) ?_
                          have q9 := fun bs L7 L8 => ih2 (j + 1) bs L7 L8
                          first
                            | (rw [x_cz_no (X := X) (g := g) (fx := fx) (T := T) (rl := rl) (n := j) (by omega), hbq] at q9; exact q9 bs _ _ (fun b z => by cases z; exact hbs _ hbq) (by omega) (by omega) (by omega))
                            | (rw [(x_cz_y (X := X) (g := g) (fx := fx) (T := T) (rl := rl) (n := j) (by omega) hbq), if_pos (x_btd_1 (by omega))] at q9; exact q9 _ _ _ (fun b z => by cases z; rfl) (by omega) (by omega) (by omega))
                            | (rw [(x_cz_y (X := X) (g := g) (fx := fx) (T := T) (rl := rl) (n := j) (by omega) hbq), if_pos (x_btd_2 (by omega) c99)] at q9; exact q9 _ _ _ (fun b z => by cases z; rfl) (by omega) (by omega) (by omega))
                            | (rw [(x_cz_y (X := X) (g := g) (fx := fx) (T := T) (rl := rl) (n := j) (by omega) hbq), if_neg (x_btd_3 (by omega) (by omega))] at q9; exact q9 bs _ _ (fun b z => by cases z; exact hbs _ hbq) (by omega) (by omega) (by omega))
                            | (rw [(x_cz_y (X := X) (g := g) (fx := fx) (T := T) (rl := rl) (n := j) (by omega) hbq), if_neg (x_btd_4 (by omega) c99)] at q9; exact q9 bs _ _ (fun b z => by cases z; exact hbs _ hbq) (by omega) (by omega) (by omega))
                        · refine r_iload dX12_build_102 rfl ?_
                          refine r_istore dX12_build_104 (by decide) rfl ?_
                          refine r_iload dX12_build_106 rfl ?_
                          refine r_istore dX12_build_108 (by decide) rfl ?_
                          refine n_inc dX12_build_110 rfl (n_i1 _) (by decide) rfl ?_
                          refine r_goto (tgt := 15) dX12_build_113 (by decide) ?_
                          have q9 := fun bs L7 L8 => ih2 (j + 1) bs L7 L8
                          first
                            | (rw [x_cz_no (X := X) (g := g) (fx := fx) (T := T) (rl := rl) (n := j) (by omega), hbq] at q9; exact q9 bs _ _ (fun b z => by cases z; exact hbs _ hbq) (by omega) (by omega) (by omega))
                            | (rw [(x_cz_y (X := X) (g := g) (fx := fx) (T := T) (rl := rl) (n := j) (by omega) hbq), if_pos (x_btd_1 (by omega))] at q9; exact q9 _ _ _ (fun b z => by cases z; rfl) (by omega) (by omega) (by omega))
                            | (rw [(x_cz_y (X := X) (g := g) (fx := fx) (T := T) (rl := rl) (n := j) (by omega) hbq), if_pos (x_btd_2 (by omega) c99)] at q9; exact q9 _ _ _ (fun b z => by cases z; rfl) (by omega) (by omega) (by omega))
                            | (rw [(x_cz_y (X := X) (g := g) (fx := fx) (T := T) (rl := rl) (n := j) (by omega) hbq), if_neg (x_btd_3 (by omega) (by omega))] at q9; exact q9 bs _ _ (fun b z => by cases z; exact hbs _ hbq) (by omega) (by omega) (by omega))
                            | (rw [(x_cz_y (X := X) (g := g) (fx := fx) (T := T) (rl := rl) (n := j) (by omega) hbq), if_neg (x_btd_4 (by omega) c99)] at q9; exact q9 bs _ _ (fun b z => by cases z; exact hbs _ hbq) (by omega) (by omega) (by omega))
        exact l2 (X 0 + 1) 0 0 _ _ (fun b z => by cases z) (by omega) (by omega) (by omega)
  refine n_const 1 dX12_build_0 (by decide) ?_
  refine r_istore_n dX12_build_1 rfl (by decide) rfl ?_
  exact lp 21 X0 g0 fx0 rk c s _ _ _ _ _ hM0 h0 hE0 hg0 (fun k _ _ _ => rfl) hX0 rfl (by omega)
end
