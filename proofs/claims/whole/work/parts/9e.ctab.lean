section
/-! ===== the class: tabu search ===== -/
def T_W (W : Nat → Nat → Nat) (s : s_T) : Prop := ∀ a b, a < 20 → b < 20 → s (182 + a) b = nI (W a b)
def T_b (b : Option (Nat × Nat)) (s : s_T) : Prop := s 161 6 = oI (b.map (fun c => c.1 / 5)) ∧ ∀ c, b = some c → s 161 7 = nI (c.1 % 5) ∧ s 161 8 = nI c.2
set_option maxRecDepth 20000 in
set_option maxHeartbeats 1000000 in
theorem c_follows {G : q_G} {s : s_T} {X : x_T} {a b : Nat} (hg : x_gd X) (hpa : c_pa X s 170) (ha : a < X 1) (hb : b < X 1) : s_W G mX2_follows 1 0 0 (c_I (fun y9 s1 => s1 = s ∧ y9 = bI (t_ex (fun i => decide (i + 1 < x_pl X ∧ x_fw X i = a ∧ x_fw X (i + 1) = b)) 20))) 0 (q_ent mX2_follows [.ref 170, .int (nI b), .int (nI a)]) [] s := by
  show s_W G mX2_follows 1 0 0 _ 0 [some (.ref 170), some (.int (nI b)), some (.int (nI a))] [] s
  have hs := x_sz hg.1
  have hpl := (x_pl_ok hg).1
  obtain ⟨-, -, -, -, h5, h6⟩ := hpa
  by_cases ea : ∃ i, i < x_pl X ∧ x_fw X i = a
  · obtain ⟨i, ei1, ei2⟩ := ea
    have va : s (170 + 3) a = nI i := by rw [← ei2]; exact h5 i ei1
    by_cases eb : ∃ i, i < x_pl X ∧ x_fw X i = b
    · obtain ⟨j, ej1, ej2⟩ := eb
      have vb : s (170 + 3) b = nI j := by rw [← ej2]; exact h5 j ej1
      refine r_aload_n dX2_follows_0 rfl rfl ?_
      refine s_getR dX2_follows_1 fX2_18 (layX2 isX2_170) rfl ?_
      refine r_iload_n dX2_follows_4 rfl rfl ?_
      refine a_ld dX2_follows_5 (X2_indices isX2_170) (by omega) (by decide) va ?_
      refine r_iconst (v := -1) dX2_follows_6 (by decide) ?_
      refine r_icmp_eq (tgt := 31) dX2_follows_7 (by decide) (fun c7 => ?_) (fun c7 => ?_)
      · exact absurd c7 (nI_m1 (by omega))
      · refine r_aload_n dX2_follows_10 rfl rfl ?_
        refine s_getR dX2_follows_11 fX2_18 (layX2 isX2_170) rfl ?_
        refine r_iload_n dX2_follows_14 rfl rfl ?_
        refine a_ld dX2_follows_15 (X2_indices isX2_170) (by omega) (by decide) vb ?_
        refine r_aload_n dX2_follows_16 rfl rfl ?_
        refine s_getR dX2_follows_17 fX2_18 (layX2 isX2_170) rfl ?_
        refine r_iload_n dX2_follows_20 rfl rfl ?_
        refine a_ld dX2_follows_21 (X2_indices isX2_170) (by omega) (by decide) va ?_
        refine n_const 1 dX2_follows_22 (by decide) ?_
        refine n_add dX2_follows_23 ?_
        refine n_cne (tgt := 31) dX2_follows_24 (by decide) (by omega) (by omega) (fun c24 => ?_) (fun c24 => ?_)
        · refine n_const 0 dX2_follows_31 (by decide) ?_
          refine s_iret dX2_follows_32 rfl rfl ?_
          refine ⟨_, rfl, rfl, ?_⟩
          first
            | (rw [show t_ex _ 20 = true from (t_ex_i 20).mpr ⟨i, by omega, decide_eq_true ⟨by omega, ei2, by rw [← c24]; exact ej2⟩⟩]
               rfl)
            | (rw [show t_ex _ 20 = false from Bool.eq_false_iff.mpr (fun z => by
                 obtain ⟨i9, -, hi⟩ := (t_ex_i 20).mp z
                 have hi := of_decide_eq_true hi
                 have q1 := x_fw_ne hg ei1 (show i9 < x_pl X by omega) (ei2.trans hi.2.1.symm)
                 have q2 := x_fw_ne hg ej1 hi.1 (ej2.trans hi.2.2.symm)
                 omega)]
               rfl)
        · refine n_const 1 dX2_follows_27 (by decide) ?_
          refine r_goto (tgt := 32) dX2_follows_28 (by decide) ?_
          refine s_iret dX2_follows_32 rfl rfl ?_
          refine ⟨_, rfl, rfl, ?_⟩
          first
            | (rw [show t_ex _ 20 = true from (t_ex_i 20).mpr ⟨i, by omega, decide_eq_true ⟨by omega, ei2, by rw [← c24]; exact ej2⟩⟩]
               rfl)
            | (rw [show t_ex _ 20 = false from Bool.eq_false_iff.mpr (fun z => by
                 obtain ⟨i9, -, hi⟩ := (t_ex_i 20).mp z
                 have hi := of_decide_eq_true hi
                 have q1 := x_fw_ne hg ei1 (show i9 < x_pl X by omega) (ei2.trans hi.2.1.symm)
                 have q2 := x_fw_ne hg ej1 hi.1 (ej2.trans hi.2.2.symm)
                 omega)]
               rfl)
    · have vb : s (170 + 3) b = -1 := h6 b (by omega) (fun i hi z => eb ⟨i, hi, z⟩)
      refine r_aload_n dX2_follows_0 rfl rfl ?_
      refine s_getR dX2_follows_1 fX2_18 (layX2 isX2_170) rfl ?_
      refine r_iload_n dX2_follows_4 rfl rfl ?_
      refine a_ld dX2_follows_5 (X2_indices isX2_170) (by omega) (by decide) va ?_
      refine r_iconst (v := -1) dX2_follows_6 (by decide) ?_
      refine r_icmp_eq (tgt := 31) dX2_follows_7 (by decide) (fun c7 => ?_) (fun c7 => ?_)
      · exact absurd c7 (nI_m1 (by omega))
      · refine r_aload_n dX2_follows_10 rfl rfl ?_
        refine s_getR dX2_follows_11 fX2_18 (layX2 isX2_170) rfl ?_
        refine r_iload_n dX2_follows_14 rfl rfl ?_
        refine a_ld dX2_follows_15 (X2_indices isX2_170) (by omega) (by decide) vb ?_
        refine r_aload_n dX2_follows_16 rfl rfl ?_
        refine s_getR dX2_follows_17 fX2_18 (layX2 isX2_170) rfl ?_
        refine r_iload_n dX2_follows_20 rfl rfl ?_
        refine a_ld dX2_follows_21 (X2_indices isX2_170) (by omega) (by decide) va ?_
        refine n_const 1 dX2_follows_22 (by decide) ?_
        refine n_add dX2_follows_23 ?_
        refine r_icmp_ne (tgt := 31) dX2_follows_24 (by decide) (fun c24 => ?_) (fun c24 => ?_)
        · refine n_const 0 dX2_follows_31 (by decide) ?_
          refine s_iret dX2_follows_32 rfl rfl ?_
          refine ⟨_, rfl, rfl, ?_⟩
          rw [show t_ex _ 20 = false from Bool.eq_false_iff.mpr (fun z => by
            obtain ⟨i, -, hi⟩ := (t_ex_i 20).mp z
            have hi := of_decide_eq_true hi
            exact eb ⟨i + 1, hi.1, hi.2.2⟩)]
          rfl
        · exact absurd c24.symm (nI_m1 (by omega))
  · have va : s (170 + 3) a = -1 := h6 a (by omega) (fun i hi z => ea ⟨i, hi, z⟩)
    refine r_aload_n dX2_follows_0 rfl rfl ?_
    refine s_getR dX2_follows_1 fX2_18 (layX2 isX2_170) rfl ?_
    refine r_iload_n dX2_follows_4 rfl rfl ?_
    refine a_ld dX2_follows_5 (X2_indices isX2_170) (by omega) (by decide) va ?_
    refine r_iconst (v := -1) dX2_follows_6 (by decide) ?_
    refine r_icmp_eq (tgt := 31) dX2_follows_7 (by decide) (fun c7 => ?_) (fun c7 => ?_)
    · refine n_const 0 dX2_follows_31 (by decide) ?_
      refine s_iret dX2_follows_32 rfl rfl ?_
      refine ⟨_, rfl, rfl, ?_⟩
      rw [show t_ex _ 20 = false from Bool.eq_false_iff.mpr (fun z => by
        obtain ⟨i, -, hi⟩ := (t_ex_i 20).mp z
        have hi := of_decide_eq_true hi
        exact ea ⟨i, by omega, hi.2.1⟩)]
      rfl
    · exact absurd rfl c7
set_option maxRecDepth 20000 in
set_option maxHeartbeats 1000000 in
theorem c_consider {G : q_G} {s : s_T} {X : x_T} {W : Nat → Nat → Nat} {st ten lst m p : Nat} (hC : c_R X s 1) (hg : x_gd X) (hm : m < 4) (hp : p + 1 < X (179 + m)) (hpa : c_pa X s 170) (hop : ∀ k, k < 4 → s 167 k = bI false) (hH : s 162 9 = -1 ∧ ∃ hu, hu ≤ 50000 ∧ s 162 10 = nI hu) (hW : T_W W s) (hWb : ∀ a b, W a b ≤ 20) (h4 : s 161 4 = nI lst) (hl : lst ≤ 1400) (hst : st ≤ 21) (hten : ten ≤ 9) (hb : T_b (t_ch X W st ten lst (5 * m + p)) s) : s_W G mX8_consider 4 0 0 (c_V (fun s1 => c_R X s1 1 ∧ T_b (t_ch X W st ten lst (5 * m + p + 1)) s1 ∧ s1 161 0 = s 161 0 ∧ s1 161 4 = s 161 4 ∧ s1 167 = s 167 ∧ s1 162 9 = s 162 9 ∧ s1 162 10 = s 162 10 ∧ (∀ k, k ≠ 161 → ¬ (162 ≤ k ∧ k < 170) → k ≠ 38 + m → s1 k = s k))) 0 (q_ent mX8_consider [.ref 161, .ref 1, .int (nI m), .int (nI p), .int (nI st - nI ten)]) [] s := by
  show s_W G mX8_consider 4 0 0 _ 0 [some (.ref 161), some (.ref 1), some (.int (nI m)), some (.int (nI p)), some (.int (nI st - nI ten)), none, none, none, none, none] [] s
  have hw := hg.1
  have hs := x_sz hw
  have h5 := (x_mn hw hm).2
  have ho : isX7 1 := Or.inl rfl
  have hO := c_R_O hC
  have hod1 := (x_od hw hm (p := p) (by omega)).1
  have hod2 := (x_od hw hm hp).1
  have hpr := x_sw_pr hw hm hp
  have hw2 := x_pr_wf hw hm hpr
  have hWb2 := hWb (X (183 + 5 * m + p)) (X (183 + 5 * m + (p + 1)))
  have hb5 : ∀ c, t_ch X W st ten lst (5 * m + p) = some c → c.2 ≤ 1400 := fun c hc => by
    obtain ⟨g1, g2⟩ := t_ch_ok _ c hc
    obtain ⟨g3, g4⟩ := t_cd_ok g2
    have g5 := (t_sw_i hg).mp g3
    exact x_sp_bd (x_pr_wf hw (m := c.1 / 5) (by omega) (x_sw_pr hw (by omega) g5.1)) g4
  refine r_aload_n dX8_consider_0 rfl rfl ?_
  refine s_getR dX8_consider_1 fX8_54 (layX7 ho) rfl ?_
  refine s_getR dX8_consider_4 fX8_85 (layX5 (X7_orders ho)) rfl ?_
  refine r_iload_n dX8_consider_7 rfl rfl ?_
  refine a_ald dX8_consider_8 (X5_rows (X7_orders ho)) (by omega) (by decide) ?_
  refine r_iload_n dX8_consider_9 rfl rfl ?_
  refine a_ld dX8_consider_10 (X5_rows_row (X7_orders ho) (by omega)) (by omega) (by decide) (co_ord hO (by omega) (by omega)) ?_
  refine r_istore dX8_consider_11 (by decide) rfl ?_
  refine r_aload_n dX8_consider_13 rfl rfl ?_
  refine s_getR dX8_consider_14 fX8_54 (layX7 ho) rfl ?_
  refine s_getR dX8_consider_17 fX8_85 (layX5 (X7_orders ho)) rfl ?_
  refine r_iload_n dX8_consider_20 rfl rfl ?_
  refine a_ald dX8_consider_21 (X5_rows (X7_orders ho)) (by omega) (by decide) ?_
  refine r_iload_n dX8_consider_22 rfl rfl ?_
  refine n_const 1 dX8_consider_23 (by decide) ?_
  refine n_add dX8_consider_24 ?_
  refine a_ld dX8_consider_25 (X5_rows_row (X7_orders ho) (by omega)) (by omega) (by decide) (co_ord hO (by omega) (by omega)) ?_
  refine r_istore dX8_consider_26 (by decide) rfl ?_
  refine r_aload_n dX8_consider_28 rfl rfl ?_
  refine s_getR dX8_consider_29 fX8_21 lysX8 rfl ?_
  refine r_iload dX8_consider_32 rfl ?_
  refine r_iload dX8_consider_34 rfl ?_
  refine s_V2I mX2_follows dX8_consider_36 okX2_follows lX8_88 npX2_follows (layX2 isX2_170) rfl (by decide) (by decide) (by decide) (Nat.le_of_ble_eq_true rfl) (Nat.le_of_ble_eq_true rfl) (c_follows hg hpa hod1 hod2) (fun x s1 hq => ?_)
  obtain ⟨rfl, rfl⟩ := hq
  refine b_ifne (tgt := 43) dX8_consider_39 (by decide) (fun c39 => ?_) (fun c39 => ?_)
  · have hsw : t_sw X m p = true := by unfold t_sw; rw [decide_eq_true hp, Bool.true_and]; exact c39
    refine r_aload_n dX8_consider_43 rfl rfl ?_
    refine s_getR dX8_consider_44 fX8_54 (layX7 ho) rfl ?_
    refine r_iload_n dX8_consider_47 rfl rfl ?_
    refine r_iload_n dX8_consider_48 rfl rfl ?_
    refine s_V2V mX5_exchange dX8_consider_49 okX5_exchange lX8_92 npX5_exchange (layX5 (X7_orders ho)) rfl (by decide) (by decide) (by decide) (Nat.le_of_ble_eq_true rfl) (Nat.le_of_ble_eq_true rfl) (c_exchR ho hC hw hm hp) (fun s1 hq => ?_)
    obtain ⟨hC2, hfa⟩ := hq
    refine r_aload_n dX8_consider_52 rfl rfl ?_
    refine s_getR dX8_consider_53 fX8_12 lysX8 rfl ?_
    refine r_aload_n dX8_consider_56 rfl rfl ?_
    refine s_V1I mX10_compute dX8_consider_57 okX10_compute lX8_44 npX10_compute (layX10 isX10_162) rfl (by decide) (by decide) (by decide) (Nat.le_of_ble_eq_true rfl) (Nat.le_of_ble_eq_true rfl) (c_computeS (op := n0) ho isX10_162 hC2 hw2 (fun k hk => by rw [hfa (162 + 5) (by omega)]; exact hop k hk) ⟨by rw [hfa 162 (by omega)]; exact hH.1, by rw [hfa 162 (by omega)]; exact hH.2⟩) (fun x s1 hq => ?_)
    obtain ⟨rfl, q2, q3, q4, q5, hf7⟩ := hq
    replace hC2 := c_R_fr hC2 hf7 (Or.inl (by omega)) (x_sz hw2).1
    refine r_istore dX8_consider_60 (by decide) rfl ?_
    cases hv : x_sp (x_sw X m p) n0 none 0 with
    | none =>
      cases hbq : t_ch X W st ten lst (5 * m + p) with
      | none =>
        refine r_aload_n dX8_consider_62 rfl rfl ?_
        refine s_getR dX8_consider_63 fX8_54 (layX7 ho) rfl ?_
        refine r_iload_n dX8_consider_66 rfl rfl ?_
        refine r_iload_n dX8_consider_67 rfl rfl ?_
        refine s_V2V mX5_exchange dX8_consider_68 okX5_exchange lX8_92 npX5_exchange (layX5 (X7_orders ho)) rfl (by decide) (by decide) (by decide) (Nat.le_of_ble_eq_true rfl) (Nat.le_of_ble_eq_true rfl) (c_exchR ho hC2 hw2 hm (by rw [x_pr_lo hpr (by omega)]; exact hp)) (fun s1 hq => ?_)
        obtain ⟨hC3, hfc⟩ := hq
        rw [x_sw_sw] at hC3
        refine r_aload_n dX8_consider_71 rfl rfl ?_
        refine s_getR dX8_consider_72 fX8_34 lysX8 rfl ?_
        refine r_iload dX8_consider_75 rfl ?_
        refine a_ald dX8_consider_77 (X8_stepOfSwap rfl) (by omega) (by decide) ?_
        refine r_iload dX8_consider_78 rfl ?_
        refine a_ld dX8_consider_80 (X8_stepOfSwap_row rfl (by omega)) (by omega) (by decide) (show s1 (182 + (X (183 + 5 * m + p))) (X (183 + 5 * m + (p + 1))) = nI (W (X (183 + 5 * m + p)) (X (183 + 5 * m + (p + 1)))) by rw [hfc (182 + (X (183 + 5 * m + p))) (by omega), hf7 (182 + (X (183 + 5 * m + p))) (by omega), hfa (182 + (X (183 + 5 * m + p))) (by omega)]; exact hW _ _ (by omega) (by omega)) ?_
        refine r_istore dX8_consider_81 (by decide) rfl ?_
        refine r_iload dX8_consider_83 rfl ?_
        refine n_ifle (tgt := 113) dX8_consider_85 (by decide) (by omega) (fun c85 => ?_) (fun c85 => ?_)
        · refine n_const 0 dX8_consider_113 (by decide) ?_
          refine r_istore dX8_consider_114 (by decide) rfl ?_
          refine r_iload dX8_consider_116 rfl ?_
          refine b_ifeq (tgt := 169) dX8_consider_118 (by decide) (fun c118 => ?_) (fun c118 => ?_)
          · refine s_vret dX8_consider_169 rfl ?_
            
            refine ⟨rfl, hC3, ?_, ?_, ?_, ?_, ?_, ?_, fun k g1 g2 g3 => by rw [hfc k (by omega), hf7 k (by omega), hfa k (by omega)]⟩
            · rw [t_ch_no (by rw [show (5 * m + p) / 5 = m by omega, show (5 * m + p) % 5 = p by omega]; exact t_cd_c hv)]
              unfold T_b
              rw [hfc 161 (by omega), hf7 161 (by omega), hfa 161 (by omega)]
              exact hb
            · rw [hfc 161 (by omega), hf7 161 (by omega), hfa 161 (by omega)]
            · rw [hfc 161 (by omega), hf7 161 (by omega), hfa 161 (by omega)]
            · rw [hfc 167 (by omega), q3, hfa (162 + 5) (by omega)]
            · rw [hfc 162 (by omega), q4, hfa 162 (by omega)]
            · rw [hfc 162 (by omega), q5, hfa 162 (by omega)]
          · exact absurd c118 (fun z9 => by cases z9)
        · refine r_iload dX8_consider_88 rfl ?_
          refine r_iload dX8_consider_90 rfl ?_
          refine r_icmp_lt (tgt := 113) dX8_consider_92 (by decide) (fun c92 => ?_) (fun c92 => ?_)
          · simp only [Int32.lt_iff_toInt_lt, nI_sub (show st < 2 ^ 31 by omega) (show ten < 2 ^ 31 by omega), nI_toInt (show W (X (183 + 5 * m + p)) (X (183 + 5 * m + (p + 1))) < 2 ^ 31 by omega)] at c92
            have e92 : W (X (183 + 5 * m + p)) (X (183 + 5 * m + (p + 1))) + ten < st := by omega
            refine n_const 0 dX8_consider_113 (by decide) ?_
            refine r_istore dX8_consider_114 (by decide) rfl ?_
            refine r_iload dX8_consider_116 rfl ?_
            refine b_ifeq (tgt := 169) dX8_consider_118 (by decide) (fun c118 => ?_) (fun c118 => ?_)
            · refine s_vret dX8_consider_169 rfl ?_
              
              refine ⟨rfl, hC3, ?_, ?_, ?_, ?_, ?_, ?_, fun k g1 g2 g3 => by rw [hfc k (by omega), hf7 k (by omega), hfa k (by omega)]⟩
              · rw [t_ch_no (by rw [show (5 * m + p) / 5 = m by omega, show (5 * m + p) % 5 = p by omega]; exact t_cd_c hv)]
                unfold T_b
                rw [hfc 161 (by omega), hf7 161 (by omega), hfa 161 (by omega)]
                exact hb
              · rw [hfc 161 (by omega), hf7 161 (by omega), hfa 161 (by omega)]
              · rw [hfc 161 (by omega), hf7 161 (by omega), hfa 161 (by omega)]
              · rw [hfc 167 (by omega), q3, hfa (162 + 5) (by omega)]
              · rw [hfc 162 (by omega), q4, hfa 162 (by omega)]
              · rw [hfc 162 (by omega), q5, hfa 162 (by omega)]
            · exact absurd c118 (fun z9 => by cases z9)
          · simp only [Int32.lt_iff_toInt_lt, nI_sub (show st < 2 ^ 31 by omega) (show ten < 2 ^ 31 by omega), nI_toInt (show W (X (183 + 5 * m + p)) (X (183 + 5 * m + (p + 1))) < 2 ^ 31 by omega)] at c92
            have e92 : st ≤ W (X (183 + 5 * m + p)) (X (183 + 5 * m + (p + 1))) + ten := by omega
            refine r_aload_n dX8_consider_95 rfl rfl ?_
            refine s_getR dX8_consider_96 fX8_12 lysX8 rfl ?_
            refine s_getI dX8_consider_99 fX8_48 (layX10 isX10_162) rfl rfl ?_
            refine r_aload_n dX8_consider_102 rfl rfl ?_
            refine s_getI dX8_consider_103 fX8_51 lysX8 rfl (show s1 161 4 = nI lst by rw [hfc 161 (by omega), hf7 161 (by omega), hfa 161 (by omega)]; exact h4) ?_
            refine r_icmp_lt (tgt := 113) dX8_consider_106 (by decide) (fun c106 => ?_) (fun c106 => ?_)
            · refine n_const 0 dX8_consider_113 (by decide) ?_
              refine r_istore dX8_consider_114 (by decide) rfl ?_
              refine r_iload dX8_consider_116 rfl ?_
              refine b_ifeq (tgt := 169) dX8_consider_118 (by decide) (fun c118 => ?_) (fun c118 => ?_)
              · refine s_vret dX8_consider_169 rfl ?_
                
                refine ⟨rfl, hC3, ?_, ?_, ?_, ?_, ?_, ?_, fun k g1 g2 g3 => by rw [hfc k (by omega), hf7 k (by omega), hfa k (by omega)]⟩
                · rw [t_ch_no (by rw [show (5 * m + p) / 5 = m by omega, show (5 * m + p) % 5 = p by omega]; exact t_cd_c hv)]
                  unfold T_b
                  rw [hfc 161 (by omega), hf7 161 (by omega), hfa 161 (by omega)]
                  exact hb
                · rw [hfc 161 (by omega), hf7 161 (by omega), hfa 161 (by omega)]
                · rw [hfc 161 (by omega), hf7 161 (by omega), hfa 161 (by omega)]
                · rw [hfc 167 (by omega), q3, hfa (162 + 5) (by omega)]
                · rw [hfc 162 (by omega), q4, hfa 162 (by omega)]
                · rw [hfc 162 (by omega), q5, hfa 162 (by omega)]
              · exact absurd c118 (fun z9 => by cases z9)
            · refine n_const 1 dX8_consider_109 (by decide) ?_
              refine r_goto (tgt := 114) dX8_consider_110 (by decide) ?_
              refine r_istore dX8_consider_114 (by decide) rfl ?_
              refine r_iload dX8_consider_116 rfl ?_
              refine b_ifeq (tgt := 169) dX8_consider_118 (by decide) (fun c118 => ?_) (fun c118 => ?_)
              · refine s_vret dX8_consider_169 rfl ?_
                
                refine ⟨rfl, hC3, ?_, ?_, ?_, ?_, ?_, ?_, fun k g1 g2 g3 => by rw [hfc k (by omega), hf7 k (by omega), hfa k (by omega)]⟩
                · rw [t_ch_no (by rw [show (5 * m + p) / 5 = m by omega, show (5 * m + p) % 5 = p by omega]; exact t_cd_c hv)]
                  unfold T_b
                  rw [hfc 161 (by omega), hf7 161 (by omega), hfa 161 (by omega)]
                  exact hb
                · rw [hfc 161 (by omega), hf7 161 (by omega), hfa 161 (by omega)]
                · rw [hfc 161 (by omega), hf7 161 (by omega), hfa 161 (by omega)]
                · rw [hfc 167 (by omega), q3, hfa (162 + 5) (by omega)]
                · rw [hfc 162 (by omega), q4, hfa 162 (by omega)]
                · rw [hfc 162 (by omega), q5, hfa 162 (by omega)]
              · exact absurd c118 (fun z9 => by cases z9)
      | some c =>
        have hcb : c.2 ≤ 1400 := hb5 c hbq
        have hcb1 := (t_ch_ok _ c hbq).1
        refine r_aload_n dX8_consider_62 rfl rfl ?_
        refine s_getR dX8_consider_63 fX8_54 (layX7 ho) rfl ?_
        refine r_iload_n dX8_consider_66 rfl rfl ?_
        refine r_iload_n dX8_consider_67 rfl rfl ?_
        refine s_V2V mX5_exchange dX8_consider_68 okX5_exchange lX8_92 npX5_exchange (layX5 (X7_orders ho)) rfl (by decide) (by decide) (by decide) (Nat.le_of_ble_eq_true rfl) (Nat.le_of_ble_eq_true rfl) (c_exchR ho hC2 hw2 hm (by rw [x_pr_lo hpr (by omega)]; exact hp)) (fun s1 hq => ?_)
        obtain ⟨hC3, hfc⟩ := hq
        rw [x_sw_sw] at hC3
        refine r_aload_n dX8_consider_71 rfl rfl ?_
        refine s_getR dX8_consider_72 fX8_34 lysX8 rfl ?_
        refine r_iload dX8_consider_75 rfl ?_
        refine a_ald dX8_consider_77 (X8_stepOfSwap rfl) (by omega) (by decide) ?_
        refine r_iload dX8_consider_78 rfl ?_
        refine a_ld dX8_consider_80 (X8_stepOfSwap_row rfl (by omega)) (by omega) (by decide) (show s1 (182 + (X (183 + 5 * m + p))) (X (183 + 5 * m + (p + 1))) = nI (W (X (183 + 5 * m + p)) (X (183 + 5 * m + (p + 1)))) by rw [hfc (182 + (X (183 + 5 * m + p))) (by omega), hf7 (182 + (X (183 + 5 * m + p))) (by omega), hfa (182 + (X (183 + 5 * m + p))) (by omega)]; exact hW _ _ (by omega) (by omega)) ?_
        refine r_istore dX8_consider_81 (by decide) rfl ?_
        refine r_iload dX8_consider_83 rfl ?_
        refine n_ifle (tgt := 113) dX8_consider_85 (by decide) (by omega) (fun c85 => ?_) (fun c85 => ?_)
        · refine n_const 0 dX8_consider_113 (by decide) ?_
          refine r_istore dX8_consider_114 (by decide) rfl ?_
          refine r_iload dX8_consider_116 rfl ?_
          refine b_ifeq (tgt := 169) dX8_consider_118 (by decide) (fun c118 => ?_) (fun c118 => ?_)
          · refine s_vret dX8_consider_169 rfl ?_
            
            refine ⟨rfl, hC3, ?_, ?_, ?_, ?_, ?_, ?_, fun k g1 g2 g3 => by rw [hfc k (by omega), hf7 k (by omega), hfa k (by omega)]⟩
            · rw [t_ch_no (by rw [show (5 * m + p) / 5 = m by omega, show (5 * m + p) % 5 = p by omega]; exact t_cd_c hv)]
              unfold T_b
              rw [hfc 161 (by omega), hf7 161 (by omega), hfa 161 (by omega)]
              exact hb
            · rw [hfc 161 (by omega), hf7 161 (by omega), hfa 161 (by omega)]
            · rw [hfc 161 (by omega), hf7 161 (by omega), hfa 161 (by omega)]
            · rw [hfc 167 (by omega), q3, hfa (162 + 5) (by omega)]
            · rw [hfc 162 (by omega), q4, hfa 162 (by omega)]
            · rw [hfc 162 (by omega), q5, hfa 162 (by omega)]
          · exact absurd c118 (fun z9 => by cases z9)
        · refine r_iload dX8_consider_88 rfl ?_
          refine r_iload dX8_consider_90 rfl ?_
          refine r_icmp_lt (tgt := 113) dX8_consider_92 (by decide) (fun c92 => ?_) (fun c92 => ?_)
          · simp only [Int32.lt_iff_toInt_lt, nI_sub (show st < 2 ^ 31 by omega) (show ten < 2 ^ 31 by omega), nI_toInt (show W (X (183 + 5 * m + p)) (X (183 + 5 * m + (p + 1))) < 2 ^ 31 by omega)] at c92
            have e92 : W (X (183 + 5 * m + p)) (X (183 + 5 * m + (p + 1))) + ten < st := by omega
            refine n_const 0 dX8_consider_113 (by decide) ?_
            refine r_istore dX8_consider_114 (by decide) rfl ?_
            refine r_iload dX8_consider_116 rfl ?_
            refine b_ifeq (tgt := 169) dX8_consider_118 (by decide) (fun c118 => ?_) (fun c118 => ?_)
            · refine s_vret dX8_consider_169 rfl ?_
              
              refine ⟨rfl, hC3, ?_, ?_, ?_, ?_, ?_, ?_, fun k g1 g2 g3 => by rw [hfc k (by omega), hf7 k (by omega), hfa k (by omega)]⟩
              · rw [t_ch_no (by rw [show (5 * m + p) / 5 = m by omega, show (5 * m + p) % 5 = p by omega]; exact t_cd_c hv)]
                unfold T_b
                rw [hfc 161 (by omega), hf7 161 (by omega), hfa 161 (by omega)]
                exact hb
              · rw [hfc 161 (by omega), hf7 161 (by omega), hfa 161 (by omega)]
              · rw [hfc 161 (by omega), hf7 161 (by omega), hfa 161 (by omega)]
              · rw [hfc 167 (by omega), q3, hfa (162 + 5) (by omega)]
              · rw [hfc 162 (by omega), q4, hfa 162 (by omega)]
              · rw [hfc 162 (by omega), q5, hfa 162 (by omega)]
            · exact absurd c118 (fun z9 => by cases z9)
          · simp only [Int32.lt_iff_toInt_lt, nI_sub (show st < 2 ^ 31 by omega) (show ten < 2 ^ 31 by omega), nI_toInt (show W (X (183 + 5 * m + p)) (X (183 + 5 * m + (p + 1))) < 2 ^ 31 by omega)] at c92
            have e92 : st ≤ W (X (183 + 5 * m + p)) (X (183 + 5 * m + (p + 1))) + ten := by omega
            refine r_aload_n dX8_consider_95 rfl rfl ?_
            refine s_getR dX8_consider_96 fX8_12 lysX8 rfl ?_
            refine s_getI dX8_consider_99 fX8_48 (layX10 isX10_162) rfl rfl ?_
            refine r_aload_n dX8_consider_102 rfl rfl ?_
            refine s_getI dX8_consider_103 fX8_51 lysX8 rfl (show s1 161 4 = nI lst by rw [hfc 161 (by omega), hf7 161 (by omega), hfa 161 (by omega)]; exact h4) ?_
            refine r_icmp_lt (tgt := 113) dX8_consider_106 (by decide) (fun c106 => ?_) (fun c106 => ?_)
            · refine n_const 0 dX8_consider_113 (by decide) ?_
              refine r_istore dX8_consider_114 (by decide) rfl ?_
              refine r_iload dX8_consider_116 rfl ?_
              refine b_ifeq (tgt := 169) dX8_consider_118 (by decide) (fun c118 => ?_) (fun c118 => ?_)
              · refine s_vret dX8_consider_169 rfl ?_
                
                refine ⟨rfl, hC3, ?_, ?_, ?_, ?_, ?_, ?_, fun k g1 g2 g3 => by rw [hfc k (by omega), hf7 k (by omega), hfa k (by omega)]⟩
                · rw [t_ch_no (by rw [show (5 * m + p) / 5 = m by omega, show (5 * m + p) % 5 = p by omega]; exact t_cd_c hv)]
                  unfold T_b
                  rw [hfc 161 (by omega), hf7 161 (by omega), hfa 161 (by omega)]
                  exact hb
                · rw [hfc 161 (by omega), hf7 161 (by omega), hfa 161 (by omega)]
                · rw [hfc 161 (by omega), hf7 161 (by omega), hfa 161 (by omega)]
                · rw [hfc 167 (by omega), q3, hfa (162 + 5) (by omega)]
                · rw [hfc 162 (by omega), q4, hfa 162 (by omega)]
                · rw [hfc 162 (by omega), q5, hfa 162 (by omega)]
              · exact absurd c118 (fun z9 => by cases z9)
            · refine n_const 1 dX8_consider_109 (by decide) ?_
              refine r_goto (tgt := 114) dX8_consider_110 (by decide) ?_
              refine r_istore dX8_consider_114 (by decide) rfl ?_
              refine r_iload dX8_consider_116 rfl ?_
              refine b_ifeq (tgt := 169) dX8_consider_118 (by decide) (fun c118 => ?_) (fun c118 => ?_)
              · refine s_vret dX8_consider_169 rfl ?_
                
                refine ⟨rfl, hC3, ?_, ?_, ?_, ?_, ?_, ?_, fun k g1 g2 g3 => by rw [hfc k (by omega), hf7 k (by omega), hfa k (by omega)]⟩
                · rw [t_ch_no (by rw [show (5 * m + p) / 5 = m by omega, show (5 * m + p) % 5 = p by omega]; exact t_cd_c hv)]
                  unfold T_b
                  rw [hfc 161 (by omega), hf7 161 (by omega), hfa 161 (by omega)]
                  exact hb
                · rw [hfc 161 (by omega), hf7 161 (by omega), hfa 161 (by omega)]
                · rw [hfc 161 (by omega), hf7 161 (by omega), hfa 161 (by omega)]
                · rw [hfc 167 (by omega), q3, hfa (162 + 5) (by omega)]
                · rw [hfc 162 (by omega), q4, hfa 162 (by omega)]
                · rw [hfc 162 (by omega), q5, hfa 162 (by omega)]
              · exact absurd c118 (fun z9 => by cases z9)
    | some v =>
      cases hbq : t_ch X W st ten lst (5 * m + p) with
      | none =>
        have hvb := x_sp_bd hw2 hv
        refine r_aload_n dX8_consider_62 rfl rfl ?_
        refine s_getR dX8_consider_63 fX8_54 (layX7 ho) rfl ?_
        refine r_iload_n dX8_consider_66 rfl rfl ?_
        refine r_iload_n dX8_consider_67 rfl rfl ?_
        refine s_V2V mX5_exchange dX8_consider_68 okX5_exchange lX8_92 npX5_exchange (layX5 (X7_orders ho)) rfl (by decide) (by decide) (by decide) (Nat.le_of_ble_eq_true rfl) (Nat.le_of_ble_eq_true rfl) (c_exchR ho hC2 hw2 hm (by rw [x_pr_lo hpr (by omega)]; exact hp)) (fun s1 hq => ?_)
        obtain ⟨hC3, hfc⟩ := hq
        rw [x_sw_sw] at hC3
        refine r_aload_n dX8_consider_71 rfl rfl ?_
        refine s_getR dX8_consider_72 fX8_34 lysX8 rfl ?_
        refine r_iload dX8_consider_75 rfl ?_
        refine a_ald dX8_consider_77 (X8_stepOfSwap rfl) (by omega) (by decide) ?_
        refine r_iload dX8_consider_78 rfl ?_
        refine a_ld dX8_consider_80 (X8_stepOfSwap_row rfl (by omega)) (by omega) (by decide) (show s1 (182 + (X (183 + 5 * m + p))) (X (183 + 5 * m + (p + 1))) = nI (W (X (183 + 5 * m + p)) (X (183 + 5 * m + (p + 1)))) by rw [hfc (182 + (X (183 + 5 * m + p))) (by omega), hf7 (182 + (X (183 + 5 * m + p))) (by omega), hfa (182 + (X (183 + 5 * m + p))) (by omega)]; exact hW _ _ (by omega) (by omega)) ?_
        refine r_istore dX8_consider_81 (by decide) rfl ?_
        refine r_iload dX8_consider_83 rfl ?_
        refine n_ifle (tgt := 113) dX8_consider_85 (by decide) (by omega) (fun c85 => ?_) (fun c85 => ?_)
        · refine n_const 0 dX8_consider_113 (by decide) ?_
          refine r_istore dX8_consider_114 (by decide) rfl ?_
          refine r_iload dX8_consider_116 rfl ?_
          refine b_ifeq (tgt := 169) dX8_consider_118 (by decide) (fun c118 => ?_) (fun c118 => ?_)
          · exact absurd c118 (fun z9 => by cases z9)
          · refine r_iload dX8_consider_121 rfl ?_
            refine n_ifne (tgt := 169) dX8_consider_123 (by decide) (by omega) (fun c123 => ?_) (fun c123 => ?_)
            · exact absurd c123 (by decide)
            · refine r_aload_n dX8_consider_126 rfl rfl ?_
              refine s_getI dX8_consider_127 fX8_71 lysX8 rfl (show s1 161 6 = -1 by rw [hfc 161 (by omega), hf7 161 (by omega), hfa 161 (by omega), hb.1, hbq]; rfl) ?_
              refine r_iconst (v := -1) dX8_consider_130 (by decide) ?_
              refine r_icmp_eq (tgt := 148) dX8_consider_131 (by decide) (fun c131 => ?_) (fun c131 => ?_)
              · refine r_aload_n dX8_consider_148 rfl rfl ?_
                refine r_iload_n dX8_consider_149 rfl rfl ?_
                refine a_put dX8_consider_150 gX8_71 lysX8 rfl rfl rfl (fun s2 hs2 hf2 => ?_)
                refine r_aload_n dX8_consider_153 rfl rfl ?_
                refine r_iload_n dX8_consider_154 rfl rfl ?_
                refine a_put dX8_consider_155 gX8_99 lysX8 rfl rfl rfl (fun s3 hs3 hf3 => ?_)
                refine r_aload_n dX8_consider_158 rfl rfl ?_
                refine r_aload_n dX8_consider_159 rfl rfl ?_
                refine s_getR dX8_consider_160 fX8_12 lysX8 rfl ?_
                refine s_getI dX8_consider_163 fX8_48 (layX10 isX10_162) rfl (show s3 162 6 = nI v by rw [hf3 162 (by omega), hf2 162 (by omega), hfc 162 (by omega)]; exact q2 v hv) ?_
                refine a_put dX8_consider_166 gX8_96 lysX8 rfl rfl rfl (fun s4 hs4 hf4 => ?_)
                refine s_vret dX8_consider_169 rfl ?_
                first
                  | (have e9 := t_ch_no (X := X) (W := W) (st := st) (ten := ten) (lst := lst) (i := 5 * m + p) (by rw [show (5 * m + p) / 5 = m by omega, show (5 * m + p) % 5 = p by omega]; exact t_cd_f hv ⟨by omega, by omega, by omega⟩)
                     refine ⟨rfl, hC3, ?_, ?_, ?_, ?_, ?_, ?_, fun k g1 g2 g3 => by rw [hfc k (by omega), hf7 k (by omega), hfa k (by omega)]⟩
                     · rw [e9]
                       unfold T_b
                       rw [hfc 161 (by omega), hf7 161 (by omega), hfa 161 (by omega)]
                       exact hb
                     · rw [hfc 161 (by omega), hf7 161 (by omega), hfa 161 (by omega)]
                     · rw [hfc 161 (by omega), hf7 161 (by omega), hfa 161 (by omega)]
                     · rw [hfc 167 (by omega), q3, hfa (162 + 5) (by omega)]
                     · rw [hfc 162 (by omega), q4, hfa 162 (by omega)]
                     · rw [hfc 162 (by omega), q5, hfa 162 (by omega)])
                  | (have e9 := t_ch_n (X := X) (W := W) (st := st) (ten := ten) (lst := lst) (i := 5 * m + p) (by rw [show (5 * m + p) / 5 = m by omega, show (5 * m + p) % 5 = p by omega]; exact t_cd_s hsw hv (by omega)) hbq
                     refine ⟨rfl, c_R_fr (c_R_fr (c_R_fr hC3 hf2 (Or.inl (by omega)) hs.1) hf3 (Or.inl (by omega)) hs.1) hf4 (Or.inl (by omega)) hs.1, ?_, ?_, ?_, ?_, ?_, ?_, fun k g1 g2 g3 => by rw [hf4 k (by omega), hf3 k (by omega), hf2 k (by omega), hfc k (by omega), hf7 k (by omega), hfa k (by omega)]⟩
                     · rw [e9]
                       refine ⟨?_, fun c9 hc9 => ?_⟩
                       · rw [hs4, pk_un (by decide), hs3, pk_un (by decide), hs2, pk_us]
                         show nI m = nI ((5 * m + p) / 5)
                         rw [show (5 * m + p) / 5 = m by omega]
                       · cases hc9
                         refine ⟨?_, by rw [hs4, pk_us]⟩
                         rw [hs4, pk_un (by decide), hs3, pk_us]
                         show nI p = nI ((5 * m + p) % 5)
                         rw [show (5 * m + p) % 5 = p by omega]
                     · rw [hs4, pk_un (by decide), hs3, pk_un (by decide), hs2, pk_un (by decide), hfc 161 (by omega), hf7 161 (by omega), hfa 161 (by omega)]
                     · rw [hs4, pk_un (by decide), hs3, pk_un (by decide), hs2, pk_un (by decide), hfc 161 (by omega), hf7 161 (by omega), hfa 161 (by omega)]
                     · rw [hf4 167 (by omega), hf3 167 (by omega), hf2 167 (by omega), hfc 167 (by omega), q3, hfa (162 + 5) (by omega)]
                     · rw [hf4 162 (by omega), hf3 162 (by omega), hf2 162 (by omega), hfc 162 (by omega), q4, hfa 162 (by omega)]
                     · rw [hf4 162 (by omega), hf3 162 (by omega), hf2 162 (by omega), hfc 162 (by omega), q5, hfa 162 (by omega)])
              · exact absurd rfl c131
        · refine r_iload dX8_consider_88 rfl ?_
          refine r_iload dX8_consider_90 rfl ?_
          refine r_icmp_lt (tgt := 113) dX8_consider_92 (by decide) (fun c92 => ?_) (fun c92 => ?_)
          · simp only [Int32.lt_iff_toInt_lt, nI_sub (show st < 2 ^ 31 by omega) (show ten < 2 ^ 31 by omega), nI_toInt (show W (X (183 + 5 * m + p)) (X (183 + 5 * m + (p + 1))) < 2 ^ 31 by omega)] at c92
            have e92 : W (X (183 + 5 * m + p)) (X (183 + 5 * m + (p + 1))) + ten < st := by omega
            refine n_const 0 dX8_consider_113 (by decide) ?_
            refine r_istore dX8_consider_114 (by decide) rfl ?_
            refine r_iload dX8_consider_116 rfl ?_
            refine b_ifeq (tgt := 169) dX8_consider_118 (by decide) (fun c118 => ?_) (fun c118 => ?_)
            · exact absurd c118 (fun z9 => by cases z9)
            · refine r_iload dX8_consider_121 rfl ?_
              refine n_ifne (tgt := 169) dX8_consider_123 (by decide) (by omega) (fun c123 => ?_) (fun c123 => ?_)
              · exact absurd c123 (by decide)
              · refine r_aload_n dX8_consider_126 rfl rfl ?_
                refine s_getI dX8_consider_127 fX8_71 lysX8 rfl (show s1 161 6 = -1 by rw [hfc 161 (by omega), hf7 161 (by omega), hfa 161 (by omega), hb.1, hbq]; rfl) ?_
                refine r_iconst (v := -1) dX8_consider_130 (by decide) ?_
                refine r_icmp_eq (tgt := 148) dX8_consider_131 (by decide) (fun c131 => ?_) (fun c131 => ?_)
                · refine r_aload_n dX8_consider_148 rfl rfl ?_
                  refine r_iload_n dX8_consider_149 rfl rfl ?_
                  refine a_put dX8_consider_150 gX8_71 lysX8 rfl rfl rfl (fun s2 hs2 hf2 => ?_)
                  refine r_aload_n dX8_consider_153 rfl rfl ?_
                  refine r_iload_n dX8_consider_154 rfl rfl ?_
                  refine a_put dX8_consider_155 gX8_99 lysX8 rfl rfl rfl (fun s3 hs3 hf3 => ?_)
                  refine r_aload_n dX8_consider_158 rfl rfl ?_
                  refine r_aload_n dX8_consider_159 rfl rfl ?_
                  refine s_getR dX8_consider_160 fX8_12 lysX8 rfl ?_
                  refine s_getI dX8_consider_163 fX8_48 (layX10 isX10_162) rfl (show s3 162 6 = nI v by rw [hf3 162 (by omega), hf2 162 (by omega), hfc 162 (by omega)]; exact q2 v hv) ?_
                  refine a_put dX8_consider_166 gX8_96 lysX8 rfl rfl rfl (fun s4 hs4 hf4 => ?_)
                  refine s_vret dX8_consider_169 rfl ?_
                  first
                    | (have e9 := t_ch_no (X := X) (W := W) (st := st) (ten := ten) (lst := lst) (i := 5 * m + p) (by rw [show (5 * m + p) / 5 = m by omega, show (5 * m + p) % 5 = p by omega]; exact t_cd_f hv ⟨by omega, by omega, by omega⟩)
                       refine ⟨rfl, hC3, ?_, ?_, ?_, ?_, ?_, ?_, fun k g1 g2 g3 => by rw [hfc k (by omega), hf7 k (by omega), hfa k (by omega)]⟩
                       · rw [e9]
                         unfold T_b
                         rw [hfc 161 (by omega), hf7 161 (by omega), hfa 161 (by omega)]
                         exact hb
                       · rw [hfc 161 (by omega), hf7 161 (by omega), hfa 161 (by omega)]
                       · rw [hfc 161 (by omega), hf7 161 (by omega), hfa 161 (by omega)]
                       · rw [hfc 167 (by omega), q3, hfa (162 + 5) (by omega)]
                       · rw [hfc 162 (by omega), q4, hfa 162 (by omega)]
                       · rw [hfc 162 (by omega), q5, hfa 162 (by omega)])
                    | (have e9 := t_ch_n (X := X) (W := W) (st := st) (ten := ten) (lst := lst) (i := 5 * m + p) (by rw [show (5 * m + p) / 5 = m by omega, show (5 * m + p) % 5 = p by omega]; exact t_cd_s hsw hv (by omega)) hbq
                       refine ⟨rfl, c_R_fr (c_R_fr (c_R_fr hC3 hf2 (Or.inl (by omega)) hs.1) hf3 (Or.inl (by omega)) hs.1) hf4 (Or.inl (by omega)) hs.1, ?_, ?_, ?_, ?_, ?_, ?_, fun k g1 g2 g3 => by rw [hf4 k (by omega), hf3 k (by omega), hf2 k (by omega), hfc k (by omega), hf7 k (by omega), hfa k (by omega)]⟩
                       · rw [e9]
                         refine ⟨?_, fun c9 hc9 => ?_⟩
                         · rw [hs4, pk_un (by decide), hs3, pk_un (by decide), hs2, pk_us]
                           show nI m = nI ((5 * m + p) / 5)
                           rw [show (5 * m + p) / 5 = m by omega]
                         · cases hc9
                           refine ⟨?_, by rw [hs4, pk_us]⟩
                           rw [hs4, pk_un (by decide), hs3, pk_us]
                           show nI p = nI ((5 * m + p) % 5)
                           rw [show (5 * m + p) % 5 = p by omega]
                       · rw [hs4, pk_un (by decide), hs3, pk_un (by decide), hs2, pk_un (by decide), hfc 161 (by omega), hf7 161 (by omega), hfa 161 (by omega)]
                       · rw [hs4, pk_un (by decide), hs3, pk_un (by decide), hs2, pk_un (by decide), hfc 161 (by omega), hf7 161 (by omega), hfa 161 (by omega)]
                       · rw [hf4 167 (by omega), hf3 167 (by omega), hf2 167 (by omega), hfc 167 (by omega), q3, hfa (162 + 5) (by omega)]
                       · rw [hf4 162 (by omega), hf3 162 (by omega), hf2 162 (by omega), hfc 162 (by omega), q4, hfa 162 (by omega)]
                       · rw [hf4 162 (by omega), hf3 162 (by omega), hf2 162 (by omega), hfc 162 (by omega), q5, hfa 162 (by omega)])
                · exact absurd rfl c131
          · simp only [Int32.lt_iff_toInt_lt, nI_sub (show st < 2 ^ 31 by omega) (show ten < 2 ^ 31 by omega), nI_toInt (show W (X (183 + 5 * m + p)) (X (183 + 5 * m + (p + 1))) < 2 ^ 31 by omega)] at c92
            have e92 : st ≤ W (X (183 + 5 * m + p)) (X (183 + 5 * m + (p + 1))) + ten := by omega
            refine r_aload_n dX8_consider_95 rfl rfl ?_
            refine s_getR dX8_consider_96 fX8_12 lysX8 rfl ?_
            refine s_getI dX8_consider_99 fX8_48 (layX10 isX10_162) rfl (show s1 162 6 = nI v by rw [hfc 162 (by omega)]; exact q2 v hv) ?_
            refine r_aload_n dX8_consider_102 rfl rfl ?_
            refine s_getI dX8_consider_103 fX8_51 lysX8 rfl (show s1 161 4 = nI lst by rw [hfc 161 (by omega), hf7 161 (by omega), hfa 161 (by omega)]; exact h4) ?_
            refine n_clt (tgt := 113) dX8_consider_106 (by decide) (by omega) (by omega) (fun c106 => ?_) (fun c106 => ?_)
            · refine n_const 0 dX8_consider_113 (by decide) ?_
              refine r_istore dX8_consider_114 (by decide) rfl ?_
              refine r_iload dX8_consider_116 rfl ?_
              refine b_ifeq (tgt := 169) dX8_consider_118 (by decide) (fun c118 => ?_) (fun c118 => ?_)
              · exact absurd c118 (fun z9 => by cases z9)
              · refine r_iload dX8_consider_121 rfl ?_
                refine n_ifne (tgt := 169) dX8_consider_123 (by decide) (by omega) (fun c123 => ?_) (fun c123 => ?_)
                · exact absurd c123 (by decide)
                · refine r_aload_n dX8_consider_126 rfl rfl ?_
                  refine s_getI dX8_consider_127 fX8_71 lysX8 rfl (show s1 161 6 = -1 by rw [hfc 161 (by omega), hf7 161 (by omega), hfa 161 (by omega), hb.1, hbq]; rfl) ?_
                  refine r_iconst (v := -1) dX8_consider_130 (by decide) ?_
                  refine r_icmp_eq (tgt := 148) dX8_consider_131 (by decide) (fun c131 => ?_) (fun c131 => ?_)
                  · refine r_aload_n dX8_consider_148 rfl rfl ?_
                    refine r_iload_n dX8_consider_149 rfl rfl ?_
                    refine a_put dX8_consider_150 gX8_71 lysX8 rfl rfl rfl (fun s2 hs2 hf2 => ?_)
                    refine r_aload_n dX8_consider_153 rfl rfl ?_
                    refine r_iload_n dX8_consider_154 rfl rfl ?_
                    refine a_put dX8_consider_155 gX8_99 lysX8 rfl rfl rfl (fun s3 hs3 hf3 => ?_)
                    refine r_aload_n dX8_consider_158 rfl rfl ?_
                    refine r_aload_n dX8_consider_159 rfl rfl ?_
                    refine s_getR dX8_consider_160 fX8_12 lysX8 rfl ?_
                    refine s_getI dX8_consider_163 fX8_48 (layX10 isX10_162) rfl (show s3 162 6 = nI v by rw [hf3 162 (by omega), hf2 162 (by omega), hfc 162 (by omega)]; exact q2 v hv) ?_
                    refine a_put dX8_consider_166 gX8_96 lysX8 rfl rfl rfl (fun s4 hs4 hf4 => ?_)
                    refine s_vret dX8_consider_169 rfl ?_
                    first
                      | (have e9 := t_ch_no (X := X) (W := W) (st := st) (ten := ten) (lst := lst) (i := 5 * m + p) (by rw [show (5 * m + p) / 5 = m by omega, show (5 * m + p) % 5 = p by omega]; exact t_cd_f hv ⟨by omega, by omega, by omega⟩)
                         refine ⟨rfl, hC3, ?_, ?_, ?_, ?_, ?_, ?_, fun k g1 g2 g3 => by rw [hfc k (by omega), hf7 k (by omega), hfa k (by omega)]⟩
                         · rw [e9]
                           unfold T_b
                           rw [hfc 161 (by omega), hf7 161 (by omega), hfa 161 (by omega)]
                           exact hb
                         · rw [hfc 161 (by omega), hf7 161 (by omega), hfa 161 (by omega)]
                         · rw [hfc 161 (by omega), hf7 161 (by omega), hfa 161 (by omega)]
                         · rw [hfc 167 (by omega), q3, hfa (162 + 5) (by omega)]
                         · rw [hfc 162 (by omega), q4, hfa 162 (by omega)]
                         · rw [hfc 162 (by omega), q5, hfa 162 (by omega)])
                      | (have e9 := t_ch_n (X := X) (W := W) (st := st) (ten := ten) (lst := lst) (i := 5 * m + p) (by rw [show (5 * m + p) / 5 = m by omega, show (5 * m + p) % 5 = p by omega]; exact t_cd_s hsw hv (by omega)) hbq
                         refine ⟨rfl, c_R_fr (c_R_fr (c_R_fr hC3 hf2 (Or.inl (by omega)) hs.1) hf3 (Or.inl (by omega)) hs.1) hf4 (Or.inl (by omega)) hs.1, ?_, ?_, ?_, ?_, ?_, ?_, fun k g1 g2 g3 => by rw [hf4 k (by omega), hf3 k (by omega), hf2 k (by omega), hfc k (by omega), hf7 k (by omega), hfa k (by omega)]⟩
                         · rw [e9]
                           refine ⟨?_, fun c9 hc9 => ?_⟩
                           · rw [hs4, pk_un (by decide), hs3, pk_un (by decide), hs2, pk_us]
                             show nI m = nI ((5 * m + p) / 5)
                             rw [show (5 * m + p) / 5 = m by omega]
                           · cases hc9
                             refine ⟨?_, by rw [hs4, pk_us]⟩
                             rw [hs4, pk_un (by decide), hs3, pk_us]
                             show nI p = nI ((5 * m + p) % 5)
                             rw [show (5 * m + p) % 5 = p by omega]
                         · rw [hs4, pk_un (by decide), hs3, pk_un (by decide), hs2, pk_un (by decide), hfc 161 (by omega), hf7 161 (by omega), hfa 161 (by omega)]
                         · rw [hs4, pk_un (by decide), hs3, pk_un (by decide), hs2, pk_un (by decide), hfc 161 (by omega), hf7 161 (by omega), hfa 161 (by omega)]
                         · rw [hf4 167 (by omega), hf3 167 (by omega), hf2 167 (by omega), hfc 167 (by omega), q3, hfa (162 + 5) (by omega)]
                         · rw [hf4 162 (by omega), hf3 162 (by omega), hf2 162 (by omega), hfc 162 (by omega), q4, hfa 162 (by omega)]
                         · rw [hf4 162 (by omega), hf3 162 (by omega), hf2 162 (by omega), hfc 162 (by omega), q5, hfa 162 (by omega)])
                  · exact absurd rfl c131
            · refine n_const 1 dX8_consider_109 (by decide) ?_
              refine r_goto (tgt := 114) dX8_consider_110 (by decide) ?_
              refine r_istore dX8_consider_114 (by decide) rfl ?_
              refine r_iload dX8_consider_116 rfl ?_
              refine b_ifeq (tgt := 169) dX8_consider_118 (by decide) (fun c118 => ?_) (fun c118 => ?_)
              · exact absurd c118 (fun z9 => by cases z9)
              · refine r_iload dX8_consider_121 rfl ?_
                refine n_ifne (tgt := 169) dX8_consider_123 (by decide) (by omega) (fun c123 => ?_) (fun c123 => ?_)
                · refine s_vret dX8_consider_169 rfl ?_
                  first
                    | (have e9 := t_ch_no (X := X) (W := W) (st := st) (ten := ten) (lst := lst) (i := 5 * m + p) (by rw [show (5 * m + p) / 5 = m by omega, show (5 * m + p) % 5 = p by omega]; exact t_cd_f hv ⟨by omega, by omega, by omega⟩)
                       refine ⟨rfl, hC3, ?_, ?_, ?_, ?_, ?_, ?_, fun k g1 g2 g3 => by rw [hfc k (by omega), hf7 k (by omega), hfa k (by omega)]⟩
                       · rw [e9]
                         unfold T_b
                         rw [hfc 161 (by omega), hf7 161 (by omega), hfa 161 (by omega)]
                         exact hb
                       · rw [hfc 161 (by omega), hf7 161 (by omega), hfa 161 (by omega)]
                       · rw [hfc 161 (by omega), hf7 161 (by omega), hfa 161 (by omega)]
                       · rw [hfc 167 (by omega), q3, hfa (162 + 5) (by omega)]
                       · rw [hfc 162 (by omega), q4, hfa 162 (by omega)]
                       · rw [hfc 162 (by omega), q5, hfa 162 (by omega)])
                    | (have e9 := t_ch_n (X := X) (W := W) (st := st) (ten := ten) (lst := lst) (i := 5 * m + p) (by rw [show (5 * m + p) / 5 = m by omega, show (5 * m + p) % 5 = p by omega]; exact t_cd_s hsw hv (by omega)) hbq
                       refine ⟨rfl, c_R_fr (c_R_fr (c_R_fr hC3 hf2 (Or.inl (by omega)) hs.1) hf3 (Or.inl (by omega)) hs.1) hf4 (Or.inl (by omega)) hs.1, ?_, ?_, ?_, ?_, ?_, ?_, fun k g1 g2 g3 => by rw [hf4 k (by omega), hf3 k (by omega), hf2 k (by omega), hfc k (by omega), hf7 k (by omega), hfa k (by omega)]⟩
                       · rw [e9]
                         refine ⟨?_, fun c9 hc9 => ?_⟩
                         · rw [hs4, pk_un (by decide), hs3, pk_un (by decide), hs2, pk_us]
                           show nI m = nI ((5 * m + p) / 5)
                           rw [show (5 * m + p) / 5 = m by omega]
                         · cases hc9
                           refine ⟨?_, by rw [hs4, pk_us]⟩
                           rw [hs4, pk_un (by decide), hs3, pk_us]
                           show nI p = nI ((5 * m + p) % 5)
                           rw [show (5 * m + p) % 5 = p by omega]
                       · rw [hs4, pk_un (by decide), hs3, pk_un (by decide), hs2, pk_un (by decide), hfc 161 (by omega), hf7 161 (by omega), hfa 161 (by omega)]
                       · rw [hs4, pk_un (by decide), hs3, pk_un (by decide), hs2, pk_un (by decide), hfc 161 (by omega), hf7 161 (by omega), hfa 161 (by omega)]
                       · rw [hf4 167 (by omega), hf3 167 (by omega), hf2 167 (by omega), hfc 167 (by omega), q3, hfa (162 + 5) (by omega)]
                       · rw [hf4 162 (by omega), hf3 162 (by omega), hf2 162 (by omega), hfc 162 (by omega), q4, hfa 162 (by omega)]
                       · rw [hf4 162 (by omega), hf3 162 (by omega), hf2 162 (by omega), hfc 162 (by omega), q5, hfa 162 (by omega)])
                · exact absurd c123 (by decide)
      | some c =>
        have hvb := x_sp_bd hw2 hv
        have hcb : c.2 ≤ 1400 := hb5 c hbq
        have hcb1 := (t_ch_ok _ c hbq).1
        refine r_aload_n dX8_consider_62 rfl rfl ?_
        refine s_getR dX8_consider_63 fX8_54 (layX7 ho) rfl ?_
        refine r_iload_n dX8_consider_66 rfl rfl ?_
        refine r_iload_n dX8_consider_67 rfl rfl ?_
        refine s_V2V mX5_exchange dX8_consider_68 okX5_exchange lX8_92 npX5_exchange (layX5 (X7_orders ho)) rfl (by decide) (by decide) (by decide) (Nat.le_of_ble_eq_true rfl) (Nat.le_of_ble_eq_true rfl) (c_exchR ho hC2 hw2 hm (by rw [x_pr_lo hpr (by omega)]; exact hp)) (fun s1 hq => ?_)
        obtain ⟨hC3, hfc⟩ := hq
        rw [x_sw_sw] at hC3
        refine r_aload_n dX8_consider_71 rfl rfl ?_
        refine s_getR dX8_consider_72 fX8_34 lysX8 rfl ?_
        refine r_iload dX8_consider_75 rfl ?_
        refine a_ald dX8_consider_77 (X8_stepOfSwap rfl) (by omega) (by decide) ?_
        refine r_iload dX8_consider_78 rfl ?_
        refine a_ld dX8_consider_80 (X8_stepOfSwap_row rfl (by omega)) (by omega) (by decide) (show s1 (182 + (X (183 + 5 * m + p))) (X (183 + 5 * m + (p + 1))) = nI (W (X (183 + 5 * m + p)) (X (183 + 5 * m + (p + 1)))) by rw [hfc (182 + (X (183 + 5 * m + p))) (by omega), hf7 (182 + (X (183 + 5 * m + p))) (by omega), hfa (182 + (X (183 + 5 * m + p))) (by omega)]; exact hW _ _ (by omega) (by omega)) ?_
        refine r_istore dX8_consider_81 (by decide) rfl ?_
        refine r_iload dX8_consider_83 rfl ?_
        refine n_ifle (tgt := 113) dX8_consider_85 (by decide) (by omega) (fun c85 => ?_) (fun c85 => ?_)
        · refine n_const 0 dX8_consider_113 (by decide) ?_
          refine r_istore dX8_consider_114 (by decide) rfl ?_
          refine r_iload dX8_consider_116 rfl ?_
          refine b_ifeq (tgt := 169) dX8_consider_118 (by decide) (fun c118 => ?_) (fun c118 => ?_)
          · exact absurd c118 (fun z9 => by cases z9)
          · refine r_iload dX8_consider_121 rfl ?_
            refine n_ifne (tgt := 169) dX8_consider_123 (by decide) (by omega) (fun c123 => ?_) (fun c123 => ?_)
            · exact absurd c123 (by decide)
            · refine r_aload_n dX8_consider_126 rfl rfl ?_
              refine s_getI dX8_consider_127 fX8_71 lysX8 rfl (show s1 161 6 = nI (c.1 / 5) by rw [hfc 161 (by omega), hf7 161 (by omega), hfa 161 (by omega), hb.1, hbq]; rfl) ?_
              refine r_iconst (v := -1) dX8_consider_130 (by decide) ?_
              refine r_icmp_eq (tgt := 148) dX8_consider_131 (by decide) (fun c131 => ?_) (fun c131 => ?_)
              · exact absurd c131 (nI_m1 (by omega))
              · refine r_aload_n dX8_consider_134 rfl rfl ?_
                refine s_getR dX8_consider_135 fX8_12 lysX8 rfl ?_
                refine s_getI dX8_consider_138 fX8_48 (layX10 isX10_162) rfl (show s1 162 6 = nI v by rw [hfc 162 (by omega)]; exact q2 v hv) ?_
                refine r_aload_n dX8_consider_141 rfl rfl ?_
                refine s_getI dX8_consider_142 fX8_96 lysX8 rfl (show s1 161 8 = nI c.2 by rw [hfc 161 (by omega), hf7 161 (by omega), hfa 161 (by omega)]; exact (hb.2 c hbq).2) ?_
                refine n_cge (tgt := 169) dX8_consider_145 (by decide) (by omega) (by omega) (fun c145 => ?_) (fun c145 => ?_)
                · refine s_vret dX8_consider_169 rfl ?_
                  first
                    | (have e9 := t_ch_no (X := X) (W := W) (st := st) (ten := ten) (lst := lst) (i := 5 * m + p) (by rw [show (5 * m + p) / 5 = m by omega, show (5 * m + p) % 5 = p by omega]; exact t_cd_f hv ⟨by omega, by omega, by omega⟩)
                       refine ⟨rfl, hC3, ?_, ?_, ?_, ?_, ?_, ?_, fun k g1 g2 g3 => by rw [hfc k (by omega), hf7 k (by omega), hfa k (by omega)]⟩
                       · rw [e9]
                         unfold T_b
                         rw [hfc 161 (by omega), hf7 161 (by omega), hfa 161 (by omega)]
                         exact hb
                       · rw [hfc 161 (by omega), hf7 161 (by omega), hfa 161 (by omega)]
                       · rw [hfc 161 (by omega), hf7 161 (by omega), hfa 161 (by omega)]
                       · rw [hfc 167 (by omega), q3, hfa (162 + 5) (by omega)]
                       · rw [hfc 162 (by omega), q4, hfa 162 (by omega)]
                       · rw [hfc 162 (by omega), q5, hfa 162 (by omega)])
                    | (have e9 := (t_ch_y (X := X) (W := W) (st := st) (ten := ten) (lst := lst) (i := 5 * m + p) (by rw [show (5 * m + p) / 5 = m by omega, show (5 * m + p) % 5 = p by omega]; exact t_cd_s hsw hv (by omega)) hbq).trans (if_pos (by omega))
                       refine ⟨rfl, c_R_fr (c_R_fr (c_R_fr hC3 hf2 (Or.inl (by omega)) hs.1) hf3 (Or.inl (by omega)) hs.1) hf4 (Or.inl (by omega)) hs.1, ?_, ?_, ?_, ?_, ?_, ?_, fun k g1 g2 g3 => by rw [hf4 k (by omega), hf3 k (by omega), hf2 k (by omega), hfc k (by omega), hf7 k (by omega), hfa k (by omega)]⟩
                       · rw [e9]
                         refine ⟨?_, fun c9 hc9 => ?_⟩
                         · rw [hs4, pk_un (by decide), hs3, pk_un (by decide), hs2, pk_us]
                           show nI m = nI ((5 * m + p) / 5)
                           rw [show (5 * m + p) / 5 = m by omega]
                         · cases hc9
                           refine ⟨?_, by rw [hs4, pk_us]⟩
                           rw [hs4, pk_un (by decide), hs3, pk_us]
                           show nI p = nI ((5 * m + p) % 5)
                           rw [show (5 * m + p) % 5 = p by omega]
                       · rw [hs4, pk_un (by decide), hs3, pk_un (by decide), hs2, pk_un (by decide), hfc 161 (by omega), hf7 161 (by omega), hfa 161 (by omega)]
                       · rw [hs4, pk_un (by decide), hs3, pk_un (by decide), hs2, pk_un (by decide), hfc 161 (by omega), hf7 161 (by omega), hfa 161 (by omega)]
                       · rw [hf4 167 (by omega), hf3 167 (by omega), hf2 167 (by omega), hfc 167 (by omega), q3, hfa (162 + 5) (by omega)]
                       · rw [hf4 162 (by omega), hf3 162 (by omega), hf2 162 (by omega), hfc 162 (by omega), q4, hfa 162 (by omega)]
                       · rw [hf4 162 (by omega), hf3 162 (by omega), hf2 162 (by omega), hfc 162 (by omega), q5, hfa 162 (by omega)])
                    | (have e9 := ((t_ch_y (X := X) (W := W) (st := st) (ten := ten) (lst := lst) (i := 5 * m + p) (by rw [show (5 * m + p) / 5 = m by omega, show (5 * m + p) % 5 = p by omega]; exact t_cd_s hsw hv (by omega)) hbq).trans (if_neg (by omega))).trans hbq.symm
                       refine ⟨rfl, hC3, ?_, ?_, ?_, ?_, ?_, ?_, fun k g1 g2 g3 => by rw [hfc k (by omega), hf7 k (by omega), hfa k (by omega)]⟩
                       · rw [e9]
                         unfold T_b
                         rw [hfc 161 (by omega), hf7 161 (by omega), hfa 161 (by omega)]
                         exact hb
                       · rw [hfc 161 (by omega), hf7 161 (by omega), hfa 161 (by omega)]
                       · rw [hfc 161 (by omega), hf7 161 (by omega), hfa 161 (by omega)]
                       · rw [hfc 167 (by omega), q3, hfa (162 + 5) (by omega)]
                       · rw [hfc 162 (by omega), q4, hfa 162 (by omega)]
                       · rw [hfc 162 (by omega), q5, hfa 162 (by omega)])
                · refine r_aload_n dX8_consider_148 rfl rfl ?_
                  refine r_iload_n dX8_consider_149 rfl rfl ?_
                  refine a_put dX8_consider_150 gX8_71 lysX8 rfl rfl rfl (fun s2 hs2 hf2 => ?_)
                  refine r_aload_n dX8_consider_153 rfl rfl ?_
                  refine r_iload_n dX8_consider_154 rfl rfl ?_
                  refine a_put dX8_consider_155 gX8_99 lysX8 rfl rfl rfl (fun s3 hs3 hf3 => ?_)
                  refine r_aload_n dX8_consider_158 rfl rfl ?_
                  refine r_aload_n dX8_consider_159 rfl rfl ?_
                  refine s_getR dX8_consider_160 fX8_12 lysX8 rfl ?_
                  refine s_getI dX8_consider_163 fX8_48 (layX10 isX10_162) rfl (show s3 162 6 = nI v by rw [hf3 162 (by omega), hf2 162 (by omega), hfc 162 (by omega)]; exact q2 v hv) ?_
                  refine a_put dX8_consider_166 gX8_96 lysX8 rfl rfl rfl (fun s4 hs4 hf4 => ?_)
                  refine s_vret dX8_consider_169 rfl ?_
                  first
                    | (have e9 := t_ch_no (X := X) (W := W) (st := st) (ten := ten) (lst := lst) (i := 5 * m + p) (by rw [show (5 * m + p) / 5 = m by omega, show (5 * m + p) % 5 = p by omega]; exact t_cd_f hv ⟨by omega, by omega, by omega⟩)
                       refine ⟨rfl, hC3, ?_, ?_, ?_, ?_, ?_, ?_, fun k g1 g2 g3 => by rw [hfc k (by omega), hf7 k (by omega), hfa k (by omega)]⟩
                       · rw [e9]
                         unfold T_b
                         rw [hfc 161 (by omega), hf7 161 (by omega), hfa 161 (by omega)]
                         exact hb
                       · rw [hfc 161 (by omega), hf7 161 (by omega), hfa 161 (by omega)]
                       · rw [hfc 161 (by omega), hf7 161 (by omega), hfa 161 (by omega)]
                       · rw [hfc 167 (by omega), q3, hfa (162 + 5) (by omega)]
                       · rw [hfc 162 (by omega), q4, hfa 162 (by omega)]
                       · rw [hfc 162 (by omega), q5, hfa 162 (by omega)])
                    | (have e9 := (t_ch_y (X := X) (W := W) (st := st) (ten := ten) (lst := lst) (i := 5 * m + p) (by rw [show (5 * m + p) / 5 = m by omega, show (5 * m + p) % 5 = p by omega]; exact t_cd_s hsw hv (by omega)) hbq).trans (if_pos (by omega))
                       refine ⟨rfl, c_R_fr (c_R_fr (c_R_fr hC3 hf2 (Or.inl (by omega)) hs.1) hf3 (Or.inl (by omega)) hs.1) hf4 (Or.inl (by omega)) hs.1, ?_, ?_, ?_, ?_, ?_, ?_, fun k g1 g2 g3 => by rw [hf4 k (by omega), hf3 k (by omega), hf2 k (by omega), hfc k (by omega), hf7 k (by omega), hfa k (by omega)]⟩
                       · rw [e9]
                         refine ⟨?_, fun c9 hc9 => ?_⟩
                         · rw [hs4, pk_un (by decide), hs3, pk_un (by decide), hs2, pk_us]
                           show nI m = nI ((5 * m + p) / 5)
                           rw [show (5 * m + p) / 5 = m by omega]
                         · cases hc9
                           refine ⟨?_, by rw [hs4, pk_us]⟩
                           rw [hs4, pk_un (by decide), hs3, pk_us]
                           show nI p = nI ((5 * m + p) % 5)
                           rw [show (5 * m + p) % 5 = p by omega]
                       · rw [hs4, pk_un (by decide), hs3, pk_un (by decide), hs2, pk_un (by decide), hfc 161 (by omega), hf7 161 (by omega), hfa 161 (by omega)]
                       · rw [hs4, pk_un (by decide), hs3, pk_un (by decide), hs2, pk_un (by decide), hfc 161 (by omega), hf7 161 (by omega), hfa 161 (by omega)]
                       · rw [hf4 167 (by omega), hf3 167 (by omega), hf2 167 (by omega), hfc 167 (by omega), q3, hfa (162 + 5) (by omega)]
                       · rw [hf4 162 (by omega), hf3 162 (by omega), hf2 162 (by omega), hfc 162 (by omega), q4, hfa 162 (by omega)]
                       · rw [hf4 162 (by omega), hf3 162 (by omega), hf2 162 (by omega), hfc 162 (by omega), q5, hfa 162 (by omega)])
                    | (have e9 := ((t_ch_y (X := X) (W := W) (st := st) (ten := ten) (lst := lst) (i := 5 * m + p) (by rw [show (5 * m + p) / 5 = m by omega, show (5 * m + p) % 5 = p by omega]; exact t_cd_s hsw hv (by omega)) hbq).trans (if_neg (by omega))).trans hbq.symm
                       refine ⟨rfl, hC3, ?_, ?_, ?_, ?_, ?_, ?_, fun k g1 g2 g3 => by rw [hfc k (by omega), hf7 k (by omega), hfa k (by omega)]⟩
                       · rw [e9]
                         unfold T_b
                         rw [hfc 161 (by omega), hf7 161 (by omega), hfa 161 (by omega)]
                         exact hb
                       · rw [hfc 161 (by omega), hf7 161 (by omega), hfa 161 (by omega)]
                       · rw [hfc 161 (by omega), hf7 161 (by omega), hfa 161 (by omega)]
                       · rw [hfc 167 (by omega), q3, hfa (162 + 5) (by omega)]
                       · rw [hfc 162 (by omega), q4, hfa 162 (by omega)]
                       · rw [hfc 162 (by omega), q5, hfa 162 (by omega)])
        · refine r_iload dX8_consider_88 rfl ?_
          refine r_iload dX8_consider_90 rfl ?_
          refine r_icmp_lt (tgt := 113) dX8_consider_92 (by decide) (fun c92 => ?_) (fun c92 => ?_)
          · simp only [Int32.lt_iff_toInt_lt, nI_sub (show st < 2 ^ 31 by omega) (show ten < 2 ^ 31 by omega), nI_toInt (show W (X (183 + 5 * m + p)) (X (183 + 5 * m + (p + 1))) < 2 ^ 31 by omega)] at c92
            have e92 : W (X (183 + 5 * m + p)) (X (183 + 5 * m + (p + 1))) + ten < st := by omega
            refine n_const 0 dX8_consider_113 (by decide) ?_
            refine r_istore dX8_consider_114 (by decide) rfl ?_
            refine r_iload dX8_consider_116 rfl ?_
            refine b_ifeq (tgt := 169) dX8_consider_118 (by decide) (fun c118 => ?_) (fun c118 => ?_)
            · exact absurd c118 (fun z9 => by cases z9)
            · refine r_iload dX8_consider_121 rfl ?_
              refine n_ifne (tgt := 169) dX8_consider_123 (by decide) (by omega) (fun c123 => ?_) (fun c123 => ?_)
              · exact absurd c123 (by decide)
              · refine r_aload_n dX8_consider_126 rfl rfl ?_
                refine s_getI dX8_consider_127 fX8_71 lysX8 rfl (show s1 161 6 = nI (c.1 / 5) by rw [hfc 161 (by omega), hf7 161 (by omega), hfa 161 (by omega), hb.1, hbq]; rfl) ?_
                refine r_iconst (v := -1) dX8_consider_130 (by decide) ?_
                refine r_icmp_eq (tgt := 148) dX8_consider_131 (by decide) (fun c131 => ?_) (fun c131 => ?_)
                · exact absurd c131 (nI_m1 (by omega))
                · refine r_aload_n dX8_consider_134 rfl rfl ?_
                  refine s_getR dX8_consider_135 fX8_12 lysX8 rfl ?_
                  refine s_getI dX8_consider_138 fX8_48 (layX10 isX10_162) rfl (show s1 162 6 = nI v by rw [hfc 162 (by omega)]; exact q2 v hv) ?_
                  refine r_aload_n dX8_consider_141 rfl rfl ?_
                  refine s_getI dX8_consider_142 fX8_96 lysX8 rfl (show s1 161 8 = nI c.2 by rw [hfc 161 (by omega), hf7 161 (by omega), hfa 161 (by omega)]; exact (hb.2 c hbq).2) ?_
                  refine n_cge (tgt := 169) dX8_consider_145 (by decide) (by omega) (by omega) (fun c145 => ?_) (fun c145 => ?_)
                  · refine s_vret dX8_consider_169 rfl ?_
                    first
                      | (have e9 := t_ch_no (X := X) (W := W) (st := st) (ten := ten) (lst := lst) (i := 5 * m + p) (by rw [show (5 * m + p) / 5 = m by omega, show (5 * m + p) % 5 = p by omega]; exact t_cd_f hv ⟨by omega, by omega, by omega⟩)
                         refine ⟨rfl, hC3, ?_, ?_, ?_, ?_, ?_, ?_, fun k g1 g2 g3 => by rw [hfc k (by omega), hf7 k (by omega), hfa k (by omega)]⟩
                         · rw [e9]
                           unfold T_b
                           rw [hfc 161 (by omega), hf7 161 (by omega), hfa 161 (by omega)]
                           exact hb
                         · rw [hfc 161 (by omega), hf7 161 (by omega), hfa 161 (by omega)]
                         · rw [hfc 161 (by omega), hf7 161 (by omega), hfa 161 (by omega)]
                         · rw [hfc 167 (by omega), q3, hfa (162 + 5) (by omega)]
                         · rw [hfc 162 (by omega), q4, hfa 162 (by omega)]
                         · rw [hfc 162 (by omega), q5, hfa 162 (by omega)])
                      | (have e9 := (t_ch_y (X := X) (W := W) (st := st) (ten := ten) (lst := lst) (i := 5 * m + p) (by rw [show (5 * m + p) / 5 = m by omega, show (5 * m + p) % 5 = p by omega]; exact t_cd_s hsw hv (by omega)) hbq).trans (if_pos (by omega))
                         refine ⟨rfl, c_R_fr (c_R_fr (c_R_fr hC3 hf2 (Or.inl (by omega)) hs.1) hf3 (Or.inl (by omega)) hs.1) hf4 (Or.inl (by omega)) hs.1, ?_, ?_, ?_, ?_, ?_, ?_, fun k g1 g2 g3 => by rw [hf4 k (by omega), hf3 k (by omega), hf2 k (by omega), hfc k (by omega), hf7 k (by omega), hfa k (by omega)]⟩
                         · rw [e9]
                           refine ⟨?_, fun c9 hc9 => ?_⟩
                           · rw [hs4, pk_un (by decide), hs3, pk_un (by decide), hs2, pk_us]
                             show nI m = nI ((5 * m + p) / 5)
                             rw [show (5 * m + p) / 5 = m by omega]
                           · cases hc9
                             refine ⟨?_, by rw [hs4, pk_us]⟩
                             rw [hs4, pk_un (by decide), hs3, pk_us]
                             show nI p = nI ((5 * m + p) % 5)
                             rw [show (5 * m + p) % 5 = p by omega]
                         · rw [hs4, pk_un (by decide), hs3, pk_un (by decide), hs2, pk_un (by decide), hfc 161 (by omega), hf7 161 (by omega), hfa 161 (by omega)]
                         · rw [hs4, pk_un (by decide), hs3, pk_un (by decide), hs2, pk_un (by decide), hfc 161 (by omega), hf7 161 (by omega), hfa 161 (by omega)]
                         · rw [hf4 167 (by omega), hf3 167 (by omega), hf2 167 (by omega), hfc 167 (by omega), q3, hfa (162 + 5) (by omega)]
                         · rw [hf4 162 (by omega), hf3 162 (by omega), hf2 162 (by omega), hfc 162 (by omega), q4, hfa 162 (by omega)]
                         · rw [hf4 162 (by omega), hf3 162 (by omega), hf2 162 (by omega), hfc 162 (by omega), q5, hfa 162 (by omega)])
                      | (have e9 := ((t_ch_y (X := X) (W := W) (st := st) (ten := ten) (lst := lst) (i := 5 * m + p) (by rw [show (5 * m + p) / 5 = m by omega, show (5 * m + p) % 5 = p by omega]; exact t_cd_s hsw hv (by omega)) hbq).trans (if_neg (by omega))).trans hbq.symm
                         refine ⟨rfl, hC3, ?_, ?_, ?_, ?_, ?_, ?_, fun k g1 g2 g3 => by rw [hfc k (by omega), hf7 k (by omega), hfa k (by omega)]⟩
                         · rw [e9]
                           unfold T_b
                           rw [hfc 161 (by omega), hf7 161 (by omega), hfa 161 (by omega)]
                           exact hb
                         · rw [hfc 161 (by omega), hf7 161 (by omega), hfa 161 (by omega)]
                         · rw [hfc 161 (by omega), hf7 161 (by omega), hfa 161 (by omega)]
                         · rw [hfc 167 (by omega), q3, hfa (162 + 5) (by omega)]
                         · rw [hfc 162 (by omega), q4, hfa 162 (by omega)]
                         · rw [hfc 162 (by omega), q5, hfa 162 (by omega)])
                  · refine r_aload_n dX8_consider_148 rfl rfl ?_
                    refine r_iload_n dX8_consider_149 rfl rfl ?_
                    refine a_put dX8_consider_150 gX8_71 lysX8 rfl rfl rfl (fun s2 hs2 hf2 => ?_)
                    refine r_aload_n dX8_consider_153 rfl rfl ?_
                    refine r_iload_n dX8_consider_154 rfl rfl ?_
                    refine a_put dX8_consider_155 gX8_99 lysX8 rfl rfl rfl (fun s3 hs3 hf3 => ?_)
                    refine r_aload_n dX8_consider_158 rfl rfl ?_
                    refine r_aload_n dX8_consider_159 rfl rfl ?_
                    refine s_getR dX8_consider_160 fX8_12 lysX8 rfl ?_
                    refine s_getI dX8_consider_163 fX8_48 (layX10 isX10_162) rfl (show s3 162 6 = nI v by rw [hf3 162 (by omega), hf2 162 (by omega), hfc 162 (by omega)]; exact q2 v hv) ?_
                    refine a_put dX8_consider_166 gX8_96 lysX8 rfl rfl rfl (fun s4 hs4 hf4 => ?_)
                    refine s_vret dX8_consider_169 rfl ?_
                    first
                      | (have e9 := t_ch_no (X := X) (W := W) (st := st) (ten := ten) (lst := lst) (i := 5 * m + p) (by rw [show (5 * m + p) / 5 = m by omega, show (5 * m + p) % 5 = p by omega]; exact t_cd_f hv ⟨by omega, by omega, by omega⟩)
                         refine ⟨rfl, hC3, ?_, ?_, ?_, ?_, ?_, ?_, fun k g1 g2 g3 => by rw [hfc k (by omega), hf7 k (by omega), hfa k (by omega)]⟩
                         · rw [e9]
                           unfold T_b
                           rw [hfc 161 (by omega), hf7 161 (by omega), hfa 161 (by omega)]
                           exact hb
                         · rw [hfc 161 (by omega), hf7 161 (by omega), hfa 161 (by omega)]
                         · rw [hfc 161 (by omega), hf7 161 (by omega), hfa 161 (by omega)]
                         · rw [hfc 167 (by omega), q3, hfa (162 + 5) (by omega)]
                         · rw [hfc 162 (by omega), q4, hfa 162 (by omega)]
                         · rw [hfc 162 (by omega), q5, hfa 162 (by omega)])
                      | (have e9 := (t_ch_y (X := X) (W := W) (st := st) (ten := ten) (lst := lst) (i := 5 * m + p) (by rw [show (5 * m + p) / 5 = m by omega, show (5 * m + p) % 5 = p by omega]; exact t_cd_s hsw hv (by omega)) hbq).trans (if_pos (by omega))
                         refine ⟨rfl, c_R_fr (c_R_fr (c_R_fr hC3 hf2 (Or.inl (by omega)) hs.1) hf3 (Or.inl (by omega)) hs.1) hf4 (Or.inl (by omega)) hs.1, ?_, ?_, ?_, ?_, ?_, ?_, fun k g1 g2 g3 => by rw [hf4 k (by omega), hf3 k (by omega), hf2 k (by omega), hfc k (by omega), hf7 k (by omega), hfa k (by omega)]⟩
                         · rw [e9]
                           refine ⟨?_, fun c9 hc9 => ?_⟩
                           · rw [hs4, pk_un (by decide), hs3, pk_un (by decide), hs2, pk_us]
                             show nI m = nI ((5 * m + p) / 5)
                             rw [show (5 * m + p) / 5 = m by omega]
                           · cases hc9
                             refine ⟨?_, by rw [hs4, pk_us]⟩
                             rw [hs4, pk_un (by decide), hs3, pk_us]
                             show nI p = nI ((5 * m + p) % 5)
                             rw [show (5 * m + p) % 5 = p by omega]
                         · rw [hs4, pk_un (by decide), hs3, pk_un (by decide), hs2, pk_un (by decide), hfc 161 (by omega), hf7 161 (by omega), hfa 161 (by omega)]
                         · rw [hs4, pk_un (by decide), hs3, pk_un (by decide), hs2, pk_un (by decide), hfc 161 (by omega), hf7 161 (by omega), hfa 161 (by omega)]
                         · rw [hf4 167 (by omega), hf3 167 (by omega), hf2 167 (by omega), hfc 167 (by omega), q3, hfa (162 + 5) (by omega)]
                         · rw [hf4 162 (by omega), hf3 162 (by omega), hf2 162 (by omega), hfc 162 (by omega), q4, hfa 162 (by omega)]
                         · rw [hf4 162 (by omega), hf3 162 (by omega), hf2 162 (by omega), hfc 162 (by omega), q5, hfa 162 (by omega)])
                      | (have e9 := ((t_ch_y (X := X) (W := W) (st := st) (ten := ten) (lst := lst) (i := 5 * m + p) (by rw [show (5 * m + p) / 5 = m by omega, show (5 * m + p) % 5 = p by omega]; exact t_cd_s hsw hv (by omega)) hbq).trans (if_neg (by omega))).trans hbq.symm
                         refine ⟨rfl, hC3, ?_, ?_, ?_, ?_, ?_, ?_, fun k g1 g2 g3 => by rw [hfc k (by omega), hf7 k (by omega), hfa k (by omega)]⟩
                         · rw [e9]
                           unfold T_b
                           rw [hfc 161 (by omega), hf7 161 (by omega), hfa 161 (by omega)]
                           exact hb
                         · rw [hfc 161 (by omega), hf7 161 (by omega), hfa 161 (by omega)]
                         · rw [hfc 161 (by omega), hf7 161 (by omega), hfa 161 (by omega)]
                         · rw [hfc 167 (by omega), q3, hfa (162 + 5) (by omega)]
                         · rw [hfc 162 (by omega), q4, hfa 162 (by omega)]
                         · rw [hfc 162 (by omega), q5, hfa 162 (by omega)])
          · simp only [Int32.lt_iff_toInt_lt, nI_sub (show st < 2 ^ 31 by omega) (show ten < 2 ^ 31 by omega), nI_toInt (show W (X (183 + 5 * m + p)) (X (183 + 5 * m + (p + 1))) < 2 ^ 31 by omega)] at c92
            have e92 : st ≤ W (X (183 + 5 * m + p)) (X (183 + 5 * m + (p + 1))) + ten := by omega
            refine r_aload_n dX8_consider_95 rfl rfl ?_
            refine s_getR dX8_consider_96 fX8_12 lysX8 rfl ?_
            refine s_getI dX8_consider_99 fX8_48 (layX10 isX10_162) rfl (show s1 162 6 = nI v by rw [hfc 162 (by omega)]; exact q2 v hv) ?_
            refine r_aload_n dX8_consider_102 rfl rfl ?_
            refine s_getI dX8_consider_103 fX8_51 lysX8 rfl (show s1 161 4 = nI lst by rw [hfc 161 (by omega), hf7 161 (by omega), hfa 161 (by omega)]; exact h4) ?_
            refine n_clt (tgt := 113) dX8_consider_106 (by decide) (by omega) (by omega) (fun c106 => ?_) (fun c106 => ?_)
            · refine n_const 0 dX8_consider_113 (by decide) ?_
              refine r_istore dX8_consider_114 (by decide) rfl ?_
              refine r_iload dX8_consider_116 rfl ?_
              refine b_ifeq (tgt := 169) dX8_consider_118 (by decide) (fun c118 => ?_) (fun c118 => ?_)
              · exact absurd c118 (fun z9 => by cases z9)
              · refine r_iload dX8_consider_121 rfl ?_
                refine n_ifne (tgt := 169) dX8_consider_123 (by decide) (by omega) (fun c123 => ?_) (fun c123 => ?_)
                · exact absurd c123 (by decide)
                · refine r_aload_n dX8_consider_126 rfl rfl ?_
                  refine s_getI dX8_consider_127 fX8_71 lysX8 rfl (show s1 161 6 = nI (c.1 / 5) by rw [hfc 161 (by omega), hf7 161 (by omega), hfa 161 (by omega), hb.1, hbq]; rfl) ?_
                  refine r_iconst (v := -1) dX8_consider_130 (by decide) ?_
                  refine r_icmp_eq (tgt := 148) dX8_consider_131 (by decide) (fun c131 => ?_) (fun c131 => ?_)
                  · exact absurd c131 (nI_m1 (by omega))
                  · refine r_aload_n dX8_consider_134 rfl rfl ?_
                    refine s_getR dX8_consider_135 fX8_12 lysX8 rfl ?_
                    refine s_getI dX8_consider_138 fX8_48 (layX10 isX10_162) rfl (show s1 162 6 = nI v by rw [hfc 162 (by omega)]; exact q2 v hv) ?_
                    refine r_aload_n dX8_consider_141 rfl rfl ?_
                    refine s_getI dX8_consider_142 fX8_96 lysX8 rfl (show s1 161 8 = nI c.2 by rw [hfc 161 (by omega), hf7 161 (by omega), hfa 161 (by omega)]; exact (hb.2 c hbq).2) ?_
                    refine n_cge (tgt := 169) dX8_consider_145 (by decide) (by omega) (by omega) (fun c145 => ?_) (fun c145 => ?_)
                    · refine s_vret dX8_consider_169 rfl ?_
                      first
                        | (have e9 := t_ch_no (X := X) (W := W) (st := st) (ten := ten) (lst := lst) (i := 5 * m + p) (by rw [show (5 * m + p) / 5 = m by omega, show (5 * m + p) % 5 = p by omega]; exact t_cd_f hv ⟨by omega, by omega, by omega⟩)
                           refine ⟨rfl, hC3, ?_, ?_, ?_, ?_, ?_, ?_, fun k g1 g2 g3 => by rw [hfc k (by omega), hf7 k (by omega), hfa k (by omega)]⟩
                           · rw [e9]
                             unfold T_b
                             rw [hfc 161 (by omega), hf7 161 (by omega), hfa 161 (by omega)]
                             exact hb
                           · rw [hfc 161 (by omega), hf7 161 (by omega), hfa 161 (by omega)]
                           · rw [hfc 161 (by omega), hf7 161 (by omega), hfa 161 (by omega)]
                           · rw [hfc 167 (by omega), q3, hfa (162 + 5) (by omega)]
                           · rw [hfc 162 (by omega), q4, hfa 162 (by omega)]
                           · rw [hfc 162 (by omega), q5, hfa 162 (by omega)])
                        | (have e9 := (t_ch_y (X := X) (W := W) (st := st) (ten := ten) (lst := lst) (i := 5 * m + p) (by rw [show (5 * m + p) / 5 = m by omega, show (5 * m + p) % 5 = p by omega]; exact t_cd_s hsw hv (by omega)) hbq).trans (if_pos (by omega))
                           refine ⟨rfl, c_R_fr (c_R_fr (c_R_fr hC3 hf2 (Or.inl (by omega)) hs.1) hf3 (Or.inl (by omega)) hs.1) hf4 (Or.inl (by omega)) hs.1, ?_, ?_, ?_, ?_, ?_, ?_, fun k g1 g2 g3 => by rw [hf4 k (by omega), hf3 k (by omega), hf2 k (by omega), hfc k (by omega), hf7 k (by omega), hfa k (by omega)]⟩
                           · rw [e9]
                             refine ⟨?_, fun c9 hc9 => ?_⟩
                             · rw [hs4, pk_un (by decide), hs3, pk_un (by decide), hs2, pk_us]
                               show nI m = nI ((5 * m + p) / 5)
                               rw [show (5 * m + p) / 5 = m by omega]
                             · cases hc9
                               refine ⟨?_, by rw [hs4, pk_us]⟩
                               rw [hs4, pk_un (by decide), hs3, pk_us]
                               show nI p = nI ((5 * m + p) % 5)
                               rw [show (5 * m + p) % 5 = p by omega]
                           · rw [hs4, pk_un (by decide), hs3, pk_un (by decide), hs2, pk_un (by decide), hfc 161 (by omega), hf7 161 (by omega), hfa 161 (by omega)]
                           · rw [hs4, pk_un (by decide), hs3, pk_un (by decide), hs2, pk_un (by decide), hfc 161 (by omega), hf7 161 (by omega), hfa 161 (by omega)]
                           · rw [hf4 167 (by omega), hf3 167 (by omega), hf2 167 (by omega), hfc 167 (by omega), q3, hfa (162 + 5) (by omega)]
                           · rw [hf4 162 (by omega), hf3 162 (by omega), hf2 162 (by omega), hfc 162 (by omega), q4, hfa 162 (by omega)]
                           · rw [hf4 162 (by omega), hf3 162 (by omega), hf2 162 (by omega), hfc 162 (by omega), q5, hfa 162 (by omega)])
                        | (have e9 := ((t_ch_y (X := X) (W := W) (st := st) (ten := ten) (lst := lst) (i := 5 * m + p) (by rw [show (5 * m + p) / 5 = m by omega, show (5 * m + p) % 5 = p by omega]; exact t_cd_s hsw hv (by omega)) hbq).trans (if_neg (by omega))).trans hbq.symm
                           refine ⟨rfl, hC3, ?_, ?_, ?_, ?_, ?_, ?_, fun k g1 g2 g3 => by rw [hfc k (by omega), hf7 k (by omega), hfa k (by omega)]⟩
                           · rw [e9]
                             unfold T_b
                             rw [hfc 161 (by omega), hf7 161 (by omega), hfa 161 (by omega)]
                             exact hb
                           · rw [hfc 161 (by omega), hf7 161 (by omega), hfa 161 (by omega)]
                           · rw [hfc 161 (by omega), hf7 161 (by omega), hfa 161 (by omega)]
                           · rw [hfc 167 (by omega), q3, hfa (162 + 5) (by omega)]
                           · rw [hfc 162 (by omega), q4, hfa 162 (by omega)]
                           · rw [hfc 162 (by omega), q5, hfa 162 (by omega)])
                    · refine r_aload_n dX8_consider_148 rfl rfl ?_
                      refine r_iload_n dX8_consider_149 rfl rfl ?_
                      refine a_put dX8_consider_150 gX8_71 lysX8 rfl rfl rfl (fun s2 hs2 hf2 => ?_)
                      refine r_aload_n dX8_consider_153 rfl rfl ?_
                      refine r_iload_n dX8_consider_154 rfl rfl ?_
                      refine a_put dX8_consider_155 gX8_99 lysX8 rfl rfl rfl (fun s3 hs3 hf3 => ?_)
                      refine r_aload_n dX8_consider_158 rfl rfl ?_
                      refine r_aload_n dX8_consider_159 rfl rfl ?_
                      refine s_getR dX8_consider_160 fX8_12 lysX8 rfl ?_
                      refine s_getI dX8_consider_163 fX8_48 (layX10 isX10_162) rfl (show s3 162 6 = nI v by rw [hf3 162 (by omega), hf2 162 (by omega), hfc 162 (by omega)]; exact q2 v hv) ?_
                      refine a_put dX8_consider_166 gX8_96 lysX8 rfl rfl rfl (fun s4 hs4 hf4 => ?_)
                      refine s_vret dX8_consider_169 rfl ?_
                      first
                        | (have e9 := t_ch_no (X := X) (W := W) (st := st) (ten := ten) (lst := lst) (i := 5 * m + p) (by rw [show (5 * m + p) / 5 = m by omega, show (5 * m + p) % 5 = p by omega]; exact t_cd_f hv ⟨by omega, by omega, by omega⟩)
                           refine ⟨rfl, hC3, ?_, ?_, ?_, ?_, ?_, ?_, fun k g1 g2 g3 => by rw [hfc k (by omega), hf7 k (by omega), hfa k (by omega)]⟩
                           · rw [e9]
                             unfold T_b
                             rw [hfc 161 (by omega), hf7 161 (by omega), hfa 161 (by omega)]
                             exact hb
                           · rw [hfc 161 (by omega), hf7 161 (by omega), hfa 161 (by omega)]
                           · rw [hfc 161 (by omega), hf7 161 (by omega), hfa 161 (by omega)]
                           · rw [hfc 167 (by omega), q3, hfa (162 + 5) (by omega)]
                           · rw [hfc 162 (by omega), q4, hfa 162 (by omega)]
                           · rw [hfc 162 (by omega), q5, hfa 162 (by omega)])
                        | (have e9 := (t_ch_y (X := X) (W := W) (st := st) (ten := ten) (lst := lst) (i := 5 * m + p) (by rw [show (5 * m + p) / 5 = m by omega, show (5 * m + p) % 5 = p by omega]; exact t_cd_s hsw hv (by omega)) hbq).trans (if_pos (by omega))
                           refine ⟨rfl, c_R_fr (c_R_fr (c_R_fr hC3 hf2 (Or.inl (by omega)) hs.1) hf3 (Or.inl (by omega)) hs.1) hf4 (Or.inl (by omega)) hs.1, ?_, ?_, ?_, ?_, ?_, ?_, fun k g1 g2 g3 => by rw [hf4 k (by omega), hf3 k (by omega), hf2 k (by omega), hfc k (by omega), hf7 k (by omega), hfa k (by omega)]⟩
                           · rw [e9]
                             refine ⟨?_, fun c9 hc9 => ?_⟩
                             · rw [hs4, pk_un (by decide), hs3, pk_un (by decide), hs2, pk_us]
                               show nI m = nI ((5 * m + p) / 5)
                               rw [show (5 * m + p) / 5 = m by omega]
                             · cases hc9
                               refine ⟨?_, by rw [hs4, pk_us]⟩
                               rw [hs4, pk_un (by decide), hs3, pk_us]
                               show nI p = nI ((5 * m + p) % 5)
                               rw [show (5 * m + p) % 5 = p by omega]
                           · rw [hs4, pk_un (by decide), hs3, pk_un (by decide), hs2, pk_un (by decide), hfc 161 (by omega), hf7 161 (by omega), hfa 161 (by omega)]
                           · rw [hs4, pk_un (by decide), hs3, pk_un (by decide), hs2, pk_un (by decide), hfc 161 (by omega), hf7 161 (by omega), hfa 161 (by omega)]
                           · rw [hf4 167 (by omega), hf3 167 (by omega), hf2 167 (by omega), hfc 167 (by omega), q3, hfa (162 + 5) (by omega)]
                           · rw [hf4 162 (by omega), hf3 162 (by omega), hf2 162 (by omega), hfc 162 (by omega), q4, hfa 162 (by omega)]
                           · rw [hf4 162 (by omega), hf3 162 (by omega), hf2 162 (by omega), hfc 162 (by omega), q5, hfa 162 (by omega)])
                        | (have e9 := ((t_ch_y (X := X) (W := W) (st := st) (ten := ten) (lst := lst) (i := 5 * m + p) (by rw [show (5 * m + p) / 5 = m by omega, show (5 * m + p) % 5 = p by omega]; exact t_cd_s hsw hv (by omega)) hbq).trans (if_neg (by omega))).trans hbq.symm
                           refine ⟨rfl, hC3, ?_, ?_, ?_, ?_, ?_, ?_, fun k g1 g2 g3 => by rw [hfc k (by omega), hf7 k (by omega), hfa k (by omega)]⟩
                           · rw [e9]
                             unfold T_b
                             rw [hfc 161 (by omega), hf7 161 (by omega), hfa 161 (by omega)]
                             exact hb
                           · rw [hfc 161 (by omega), hf7 161 (by omega), hfa 161 (by omega)]
                           · rw [hfc 161 (by omega), hf7 161 (by omega), hfa 161 (by omega)]
                           · rw [hfc 167 (by omega), q3, hfa (162 + 5) (by omega)]
                           · rw [hfc 162 (by omega), q4, hfa 162 (by omega)]
                           · rw [hfc 162 (by omega), q5, hfa 162 (by omega)])
            · refine n_const 1 dX8_consider_109 (by decide) ?_
              refine r_goto (tgt := 114) dX8_consider_110 (by decide) ?_
              refine r_istore dX8_consider_114 (by decide) rfl ?_
              refine r_iload dX8_consider_116 rfl ?_
              refine b_ifeq (tgt := 169) dX8_consider_118 (by decide) (fun c118 => ?_) (fun c118 => ?_)
              · exact absurd c118 (fun z9 => by cases z9)
              · refine r_iload dX8_consider_121 rfl ?_
                refine n_ifne (tgt := 169) dX8_consider_123 (by decide) (by omega) (fun c123 => ?_) (fun c123 => ?_)
                · refine s_vret dX8_consider_169 rfl ?_
                  first
                    | (have e9 := t_ch_no (X := X) (W := W) (st := st) (ten := ten) (lst := lst) (i := 5 * m + p) (by rw [show (5 * m + p) / 5 = m by omega, show (5 * m + p) % 5 = p by omega]; exact t_cd_f hv ⟨by omega, by omega, by omega⟩)
                       refine ⟨rfl, hC3, ?_, ?_, ?_, ?_, ?_, ?_, fun k g1 g2 g3 => by rw [hfc k (by omega), hf7 k (by omega), hfa k (by omega)]⟩
                       · rw [e9]
                         unfold T_b
                         rw [hfc 161 (by omega), hf7 161 (by omega), hfa 161 (by omega)]
                         exact hb
                       · rw [hfc 161 (by omega), hf7 161 (by omega), hfa 161 (by omega)]
                       · rw [hfc 161 (by omega), hf7 161 (by omega), hfa 161 (by omega)]
                       · rw [hfc 167 (by omega), q3, hfa (162 + 5) (by omega)]
                       · rw [hfc 162 (by omega), q4, hfa 162 (by omega)]
                       · rw [hfc 162 (by omega), q5, hfa 162 (by omega)])
                    | (have e9 := (t_ch_y (X := X) (W := W) (st := st) (ten := ten) (lst := lst) (i := 5 * m + p) (by rw [show (5 * m + p) / 5 = m by omega, show (5 * m + p) % 5 = p by omega]; exact t_cd_s hsw hv (by omega)) hbq).trans (if_pos (by omega))
                       refine ⟨rfl, c_R_fr (c_R_fr (c_R_fr hC3 hf2 (Or.inl (by omega)) hs.1) hf3 (Or.inl (by omega)) hs.1) hf4 (Or.inl (by omega)) hs.1, ?_, ?_, ?_, ?_, ?_, ?_, fun k g1 g2 g3 => by rw [hf4 k (by omega), hf3 k (by omega), hf2 k (by omega), hfc k (by omega), hf7 k (by omega), hfa k (by omega)]⟩
                       · rw [e9]
                         refine ⟨?_, fun c9 hc9 => ?_⟩
                         · rw [hs4, pk_un (by decide), hs3, pk_un (by decide), hs2, pk_us]
                           show nI m = nI ((5 * m + p) / 5)
                           rw [show (5 * m + p) / 5 = m by omega]
                         · cases hc9
                           refine ⟨?_, by rw [hs4, pk_us]⟩
                           rw [hs4, pk_un (by decide), hs3, pk_us]
                           show nI p = nI ((5 * m + p) % 5)
                           rw [show (5 * m + p) % 5 = p by omega]
                       · rw [hs4, pk_un (by decide), hs3, pk_un (by decide), hs2, pk_un (by decide), hfc 161 (by omega), hf7 161 (by omega), hfa 161 (by omega)]
                       · rw [hs4, pk_un (by decide), hs3, pk_un (by decide), hs2, pk_un (by decide), hfc 161 (by omega), hf7 161 (by omega), hfa 161 (by omega)]
                       · rw [hf4 167 (by omega), hf3 167 (by omega), hf2 167 (by omega), hfc 167 (by omega), q3, hfa (162 + 5) (by omega)]
                       · rw [hf4 162 (by omega), hf3 162 (by omega), hf2 162 (by omega), hfc 162 (by omega), q4, hfa 162 (by omega)]
                       · rw [hf4 162 (by omega), hf3 162 (by omega), hf2 162 (by omega), hfc 162 (by omega), q5, hfa 162 (by omega)])
                    | (have e9 := ((t_ch_y (X := X) (W := W) (st := st) (ten := ten) (lst := lst) (i := 5 * m + p) (by rw [show (5 * m + p) / 5 = m by omega, show (5 * m + p) % 5 = p by omega]; exact t_cd_s hsw hv (by omega)) hbq).trans (if_neg (by omega))).trans hbq.symm
                       refine ⟨rfl, hC3, ?_, ?_, ?_, ?_, ?_, ?_, fun k g1 g2 g3 => by rw [hfc k (by omega), hf7 k (by omega), hfa k (by omega)]⟩
                       · rw [e9]
                         unfold T_b
                         rw [hfc 161 (by omega), hf7 161 (by omega), hfa 161 (by omega)]
                         exact hb
                       · rw [hfc 161 (by omega), hf7 161 (by omega), hfa 161 (by omega)]
                       · rw [hfc 161 (by omega), hf7 161 (by omega), hfa 161 (by omega)]
                       · rw [hfc 167 (by omega), q3, hfa (162 + 5) (by omega)]
                       · rw [hfc 162 (by omega), q4, hfa 162 (by omega)]
                       · rw [hfc 162 (by omega), q5, hfa 162 (by omega)])
                · exact absurd c123 (by decide)
  · have hsw : ¬ t_sw X m p = true := by unfold t_sw; rw [decide_eq_true hp, Bool.true_and, c39]; exact fun z9 => by cases z9
    refine s_vret dX8_consider_42 rfl ?_
    have e9 := t_ch_no (X := X) (W := W) (st := st) (ten := ten) (lst := lst) (i := 5 * m + p) (by rw [show (5 * m + p) / 5 = m by omega, show (5 * m + p) % 5 = p by omega]; exact t_cd_n hsw)
    exact ⟨rfl, hC, by rw [e9]; exact hb, rfl, rfl, rfl, rfl, rfl, fun k _ _ _ => rfl⟩
theorem c_pa_fr {X : x_T} {s s1 : s_T} (h : c_pa X s 170) (hf : ∀ k, 170 ≤ k → k < 174 → s1 k = s k) : c_pa X s1 170 := by
  unfold c_pa
  rw [hf 170 (by omega) (by omega), hf (170 + 1) (by omega) (by omega), hf (170 + 2) (by omega) (by omega), hf (170 + 3) (by omega) (by omega)]
  exact h
set_option maxRecDepth 20000 in
set_option maxHeartbeats 1000000 in
theorem c_tChoose {G : q_G} {s : s_T} {X : x_T} {W : Nat → Nat → Nat} {st ten lst : Nat} (hC0 : c_R X s 1) (hg : x_gd X) (hpa : c_pa X s 170) (hop : ∀ k, k < 4 → s 167 k = bI false) (hH : s 162 9 = -1 ∧ ∃ hu, hu ≤ 50000 ∧ s 162 10 = nI hu) (hW : T_W W s) (hWb : ∀ a b, W a b ≤ 20) (h4 : s 161 4 = nI lst) (hl : lst ≤ 1400) (hst : st ≤ 21) (hten : ten ≤ 9) : s_W G mX8_choose 5 0 0 (c_V (fun s1 => c_R X s1 1 ∧ T_b (t_ch X W st ten lst 20) s1 ∧ s1 161 0 = s 161 0 ∧ s1 161 4 = s 161 4 ∧ s1 167 = s 167 ∧ s1 162 9 = s 162 9 ∧ s1 162 10 = s 162 10 ∧ (∀ k, k ≠ 161 → ¬ (162 ≤ k ∧ k < 170) → ¬ (38 ≤ k ∧ k < 42) → s1 k = s k))) 0 (q_ent mX8_choose [.ref 161, .ref 1, .int (nI st - nI ten)]) [] s := by
  show s_W G mX8_choose 5 0 0 _ 0 [some (.ref 161), some (.ref 1), some (.int (nI st - nI ten)), none, none] [] s
  have hw := hg.1
  have hs := x_sz hw
  have ho : isX7 1 := Or.inl rfl
  have ol : ∀ f m (L4 : Option Value) u1, c_R X u1 1 → T_b (t_ch X W st ten lst (5 * m)) u1 → u1 161 0 = s 161 0 → u1 161 4 = s 161 4 → u1 167 = s 167 → u1 162 9 = s 162 9 → u1 162 10 = s 162 10 → (∀ k, k ≠ 161 → ¬ (162 ≤ k ∧ k < 170) → ¬ (38 ≤ k ∧ k < 42) → u1 k = s k) → m ≤ 4 → 4 < m + f → s_W G mX8_choose 5 0 0 (c_V (fun s1 => c_R X s1 1 ∧ T_b (t_ch X W st ten lst 20) s1 ∧ s1 161 0 = s 161 0 ∧ s1 161 4 = s 161 4 ∧ s1 167 = s 167 ∧ s1 162 9 = s 162 9 ∧ s1 162 10 = s 162 10 ∧ (∀ k, k ≠ 161 → ¬ (162 ≤ k ∧ k < 170) → ¬ (38 ≤ k ∧ k < 42) → s1 k = s k))) 7 [some (.ref 161), some (.ref 1), some (.int (nI st - nI ten)), some (.int (nI m)), L4] [] u1 := by
    intro f
    induction f with
    | zero =>
      intro m L4 u1 hC hb k0 k4 k5 k9 k10 hf hm4 hme
      exact absurd hme (by omega)
    | succ f ih =>
      intro m L4 u1 hC hb k0 k4 k5 k9 k10 hf hm4 hme
      refine r_iload_n dX8_choose_7 rfl rfl ?_
      refine n_const 4 dX8_choose_8 (by decide) ?_
      refine n_cge (tgt := 52) dX8_choose_9 (by decide) (by omega) (by omega) (fun c9 => ?_) (fun c9 => ?_)
      · refine s_vret dX8_choose_52 rfl ?_
        have e9 : m = 4 := by omega
        subst e9
        exact ⟨rfl, hC, hb, k0, k4, k5, k9, k10, hf⟩
      · have hm := c9
        refine n_const 0 dX8_choose_12 (by decide) ?_
        refine r_istore dX8_choose_13 (by decide) rfl ?_
        have il : ∀ f2 p u1, c_R X u1 1 → T_b (t_ch X W st ten lst (5 * m + p)) u1 → u1 161 0 = s 161 0 → u1 161 4 = s 161 4 → u1 167 = s 167 → u1 162 9 = s 162 9 → u1 162 10 = s 162 10 → (∀ k, k ≠ 161 → ¬ (162 ≤ k ∧ k < 170) → ¬ (38 ≤ k ∧ k < 42) → u1 k = s k) → p ≤ 5 → 5 < p + f2 → s_W G mX8_choose 5 0 0 (c_V (fun s1 => c_R X s1 1 ∧ T_b (t_ch X W st ten lst 20) s1 ∧ s1 161 0 = s 161 0 ∧ s1 161 4 = s 161 4 ∧ s1 167 = s 167 ∧ s1 162 9 = s 162 9 ∧ s1 162 10 = s 162 10 ∧ (∀ k, k ≠ 161 → ¬ (162 ≤ k ∧ k < 170) → ¬ (38 ≤ k ∧ k < 42) → s1 k = s k))) 15 [some (.ref 161), some (.ref 1), some (.int (nI st - nI ten)), some (.int (nI m)), some (.int (nI p))] [] u1 := by
          intro f2
          induction f2 with
          | zero =>
            intro p u1 hC hb k0 k4 k5 k9 k10 hf hp hme
            exact absurd hme (by omega)
          | succ f2 ih2 =>
            intro p u1 hC hb k0 k4 k5 k9 k10 hf hp hme
            have hmn := x_mn hw hm
            have hO := c_R_O hC
            refine r_iload dX8_choose_15 rfl ?_
            refine r_aload_n dX8_choose_17 rfl rfl ?_
            refine s_getR dX8_choose_18 fX8_54 (layX7 ho) rfl ?_
            refine s_getR dX8_choose_21 fX8_77 (layX5 (X7_orders ho)) rfl ?_
            refine r_iload_n dX8_choose_24 rfl rfl ?_
            refine a_ld dX8_choose_25 (X5_sizes (X7_orders ho)) (by omega) (by decide) (co_on hO (by omega)) ?_
            refine n_const 1 dX8_choose_26 (by decide) ?_
            refine r_isub dX8_choose_27 ?_
            refine r_icmp_ge (tgt := 46) dX8_choose_28 (by decide) (fun c28 => ?_) (fun c28 => ?_)
            · have hp9 : X (179 + m) ≤ p + 1 := by simp only [Int32.lt_iff_toInt_lt, Int32.le_iff_toInt_le, nI_sub (show X (179 + m) < 2 ^ 31 by omega) (show 1 < 2 ^ 31 by decide), nI_toInt (show p < 2 ^ 31 by omega)] at c28; omega
              refine n_inc dX8_choose_46 rfl (n_i1 _) (by decide) rfl ?_
              refine r_goto (tgt := 7) dX8_choose_49 (by decide) ?_
              rw [t_ch_sk (5 - p) p (by omega) hp9] at hb
              exact ih (m + 1) _ u1 hC hb k0 k4 k5 k9 k10 hf (by omega) (by omega)
            · have hp9 : p + 1 < X (179 + m) := by simp only [Int32.lt_iff_toInt_lt, Int32.le_iff_toInt_le, nI_sub (show X (179 + m) < 2 ^ 31 by omega) (show 1 < 2 ^ 31 by decide), nI_toInt (show p < 2 ^ 31 by omega)] at c28; omega
              refine r_aload_n dX8_choose_31 rfl rfl ?_
              refine r_aload_n dX8_choose_32 rfl rfl ?_
              refine r_iload_n dX8_choose_33 rfl rfl ?_
              refine r_iload dX8_choose_34 rfl ?_
              refine r_iload_n dX8_choose_36 rfl rfl ?_
              refine s_V4V mX8_consider dX8_choose_37 okX8_consider lX8_81 npX8_consider lysX8 rfl (by decide) (by decide) (by decide) (Nat.le_of_ble_eq_true rfl) (Nat.le_of_ble_eq_true rfl) (c_consider hC hg hm hp9 (c_pa_fr hpa (fun k h1 h2 => hf k (by omega) (by omega) (by omega))) (by rw [k5]; exact hop) (by rw [k9, k10]; exact hH) (fun a b ha hb => by rw [hf (182 + a) (by omega) (by omega) (by omega)]; exact hW a b ha hb) hWb (k4.trans h4) hl hst hten hb) (fun s1 hq => ?_)
              obtain ⟨hC, hb, j0, j4, j5, j9, j10, hf9⟩ := hq
              refine n_inc dX8_choose_40 rfl (n_i1 _) (by decide) rfl ?_
              refine r_goto (tgt := 15) dX8_choose_43 (by decide) ?_
              exact ih2 (p + 1) s1 hC hb (j0.trans k0) (j4.trans k4) (j5.trans k5) (j9.trans k9) (j10.trans k10) (fun k g1 g2 g3 => by rw [hf9 k g1 g2 (by omega)]; exact hf k g1 g2 g3) (by omega) (by omega)
        exact il 6 0 u1 hC hb k0 k4 k5 k9 k10 hf (by omega) (by omega)
  refine r_aload_n dX8_choose_0 rfl rfl ?_
  refine r_iconst (v := -1) dX8_choose_1 (by decide) ?_
  refine a_put dX8_choose_2 gX8_71 lysX8 rfl rfl rfl (fun s2 hs2 hf2 => ?_)
  refine n_const 0 dX8_choose_5 (by decide) ?_
  refine r_istore_n dX8_choose_6 rfl (by decide) rfl ?_
  exact ol 5 0 _ s2 (c_R_fr hC0 hf2 (Or.inl (by omega)) hs.1) ⟨by rw [hs2, pk_us]; rfl, fun c z => by cases z⟩ (by rw [hs2, pk_un (by decide)]) (by rw [hs2, pk_un (by decide)]) (hf2 167 (by omega)) (by rw [hf2 162 (by omega)]) (by rw [hf2 162 (by omega)]) (fun k g1 g2 g3 => hf2 k (by omega)) (by omega) (by omega)
end
