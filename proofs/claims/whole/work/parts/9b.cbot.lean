section
set_option maxRecDepth 20000 in
set_option maxHeartbeats 1000000 in
theorem c_closeNext {G : q_G} {s : s_T} {X : x_T} {op : Nat → Bool} {t : Nat} (hC0 : c_R X s 1) (hw : x_wf X) (hop0 : ∀ k, k < 4 → s 157 k = bI (op k)) (hH : s 152 9 = -1 ∧ ∃ hu, hu ≤ 50000 ∧ s 152 10 = nI hu) (ha : x_ac X op) (hne : b_ch X op 4 ≠ none) (ht : t < 4) : s_W G mX0_closeNext 5 0 0 (c_V (fun s1 => ∃ c, b_ch X op 4 = some c ∧ c_R (x_bX X (va_up op c false) c) s1 1 ∧ (∀ k, k < 4 → s1 157 k = bI (va_up op c false k)) ∧ s1 151 = upd (s 151) t (nI c) ∧ s1 152 9 = s 152 9 ∧ s1 152 10 = s 152 10 ∧ (∀ k, k ≠ 151 → ¬ (152 ≤ k ∧ k < 160) → k ≠ 147 → k ≠ 148 → k ≠ 149 → k ≠ 160 → ¬ (38 ≤ k ∧ k < 42) → s1 k = s k))) 0 (q_ent mX0_closeNext [.ref 150, .ref 1, .ref 147, .int (nI t)]) [] s := by
  show s_W G mX0_closeNext 5 0 0 _ 0 [some (.ref 150), some (.ref 1), some (.ref 147), some (.int (nI t)), none, none, none] [] s
  have hs := x_sz hw
  have ho : isX7 1 := Or.inl rfl
  have lp : ∀ f m g u1, (∀ c, b_ch X op m = some c → g = b_v X op c ∧ ∀ i, i < X (179 + c) → u1 160 i = nI (x_so X c (x_gt (x_br2 X (va_up op c false) c) i))) → g ≤ 1400 → c_R X u1 1 → (∀ k, k < 4 → u1 157 k = bI (op k)) → u1 152 9 = s 152 9 → u1 152 10 = s 152 10 → (∀ k, ¬ (152 ≤ k ∧ k < 160) → k ≠ 147 → k ≠ 148 → k ≠ 149 → k ≠ 160 → ¬ (38 ≤ k ∧ k < 42) → u1 k = s k) → m ≤ 4 → 4 < m + f → s_W G mX0_closeNext 5 0 0 (c_V (fun s1 => ∃ c, b_ch X op 4 = some c ∧ c_R (x_bX X (va_up op c false) c) s1 1 ∧ (∀ k, k < 4 → s1 157 k = bI (va_up op c false k)) ∧ s1 151 = upd (s 151) t (nI c) ∧ s1 152 9 = s 152 9 ∧ s1 152 10 = s 152 10 ∧ (∀ k, k ≠ 151 → ¬ (152 ≤ k ∧ k < 160) → k ≠ 147 → k ≠ 148 → k ≠ 149 → k ≠ 160 → ¬ (38 ≤ k ∧ k < 42) → s1 k = s k))) 9 [some (.ref 150), some (.ref 1), some (.ref 147), some (.int (nI t)), some (.int (oI (b_ch X op m))), some (.int (nI g)), some (.int (nI m))] [] u1 := by
    intro f
    induction f with
    | zero =>
      intro m g u1 hb hg hC hop h9 h10 hf hm hme
      exact absurd hme (by omega)
    | succ f ih =>
      intro m g u1 hb hg hC hop h9 h10 hf hm hme
      cases hbq : b_ch X op m with
      | none =>
        show s_W G mX0_closeNext 5 0 0 _ 9 [some (.ref 150), some (.ref 1), some (.ref 147), some (.int (nI t)), some (.int (-1)), some (.int (nI g)), some (.int (nI m))] [] u1
        refine r_iload dX0_closeNext_9 rfl ?_
        refine n_const 4 dX0_closeNext_11 (by decide) ?_
        refine n_cge (tgt := 92) dX0_closeNext_12 (by decide) (by omega) (by omega) (fun c12 => ?_) (fun c12 => ?_)
        · have e9 : m = 4 := by omega
          subst e9
          exact absurd hbq hne
        · refine r_aload_n dX0_closeNext_15 rfl rfl ?_
          refine s_getR dX0_closeNext_16 fX0_18 lysX0 rfl ?_
          refine s_getR dX0_closeNext_19 fX0_25 (layX10 isX10_152) rfl ?_
          refine r_iload dX0_closeNext_22 rfl ?_
          refine a_zld dX0_closeNext_24 (X10_open isX10_152) (by omega) (by decide) (hop m c12) ?_
          refine b_ifeq (tgt := 86) dX0_closeNext_25 (by decide) (fun c25 => ?_) (fun c25 => ?_)
          · refine n_inc dX0_closeNext_86 rfl (n_i1 _) (by decide) rfl ?_
            refine r_goto (tgt := 9) dX0_closeNext_89 (by decide) ?_
            have q9 := fun g u2 => ih (m + 1) g u2
            first
              | (rw [b_ch_no (X := X) (op := op) (n := m) (by rw [c25]; decide), hbq] at q9; exact q9 g u1 (fun c hc => by cases hc) hg hC hop h9 h10 hf (by omega) (by omega))
              | (rw [b_ch_n (X := X) (op := op) (n := m) c25 hbq] at q9; exact q9 _ _ (fun c hc => by cases hc; exact ⟨rfl, fun i hi => by rw [hcp i (by have := (x_mn hw (show m < 4 by omega)).2; omega), hf2 148 (by omega)]; exact e2 i hi⟩) hvb (c_R_cg hC2 (fun k g1 g2 => hfc k (by omega)) hs.1) (fun k hk => by rw [hfc 157 (by omega)]; exact hop2 k hk) (by rw [hfc 152 (by omega), hf2 152 (by omega), e9]; exact h9) (by rw [hfc 152 (by omega), hf2 152 (by omega), e10]; exact h10) (fun k g1 g2 g3 g4 g5 g6 => by rw [hfc k (by omega)]; exact hfo k g1 g2 g3 g4 g5 g6) (by omega) (by omega))
          · refine r_aload_n dX0_closeNext_28 rfl rfl ?_
            refine r_aload_n dX0_closeNext_29 rfl rfl ?_
            refine r_aload_n dX0_closeNext_30 rfl rfl ?_
            refine s_getR dX0_closeNext_31 fX0_18 lysX0 rfl ?_
            refine r_iload dX0_closeNext_34 rfl ?_
            refine s_V3V mX6_explore dX0_closeNext_36 okX6_explore lX0_33 npX6_explore lysX6 rfl (by decide) (by decide) (by decide) (Nat.le_of_ble_eq_true rfl) (Nat.le_of_ble_eq_true rfl) (c_explore (op := op) (h := 152) ho isX10_152 hC hw c12 hop ⟨h9.trans hH.1, by obtain ⟨hu, hu1, hu2⟩ := hH.2; exact ⟨hu, hu1, h10.trans hu2⟩⟩ (Or.inr rfl) (by rw [b_up1 c25]; exact ha)) (fun s1 hq => ?_)
            obtain ⟨e1, e2, hC1, e5, e9, e10, hfe⟩ := hq
            refine r_aload_n dX0_closeNext_39 rfl rfl ?_
            refine s_getR dX0_closeNext_40 fX0_18 lysX0 rfl ?_
            refine s_getR dX0_closeNext_43 fX0_25 (layX10 isX10_152) rfl ?_
            refine r_iload dX0_closeNext_46 rfl ?_
            refine n_const 1 dX0_closeNext_48 (by decide) ?_
            refine a_zst (b := true) dX0_closeNext_49 (X10_open isX10_152) (by omega) (by decide) (fun s2 hs2 hf2 => ?_)
            have hvb : b_v X op m ≤ 1400 := by
              have r := x_b_ok (op := va_up op m false) hw c12 va_up_s (by rw [b_up2 c25]; exact ha)
              exact x_sp_bd r.2.2.1 r.2.2.2.2
            have hC2 : c_R X s2 1 := c_R_fr hC1 hf2 (Or.inl (by omega)) hs.1
            have hop2 : ∀ k, k < 4 → s2 157 k = bI (op k) := fun k hk => by
              rw [hs2]
              by_cases e : k = m
              · subst e; rw [pk_us, c25]
              · rw [pk_un e]
                have := e5 k hk
                rw [va_up_n e] at this
                exact this
            have hfo : (∀ k, ¬ (152 ≤ k ∧ k < 160) → k ≠ 147 → k ≠ 148 → k ≠ 149 → k ≠ 160 → ¬ (38 ≤ k ∧ k < 42) → s2 k = s k) := fun k g1 g2 g3 g4 g5 g6 => by rw [hf2 k (by omega), hfe k (by omega) g2 g3 g4 (by omega)]; exact hf k g1 g2 g3 g4 g5 g6
            refine r_iload dX0_closeNext_50 rfl ?_
            refine r_iconst (v := -1) dX0_closeNext_52 (by decide) ?_
            refine r_icmp_eq (tgt := 65) dX0_closeNext_53 (by decide) (fun c53 => ?_) (fun c53 => ?_)
            · refine r_iload dX0_closeNext_65 rfl ?_
              refine r_istore dX0_closeNext_67 (by decide) rfl ?_
              refine r_aload_n dX0_closeNext_69 rfl rfl ?_
              refine s_getI dX0_closeNext_70 fX0_53 lysX6 rfl (show s2 147 0 = nI (b_v X op m) by rw [hf2 147 (by omega)]; exact e1) ?_
              refine r_istore dX0_closeNext_73 (by decide) rfl ?_
              refine r_aload_n dX0_closeNext_75 rfl rfl ?_
              refine s_getR dX0_closeNext_76 fX0_56 lysX6 rfl ?_
              refine r_aload_n dX0_closeNext_79 rfl rfl ?_
              refine s_getR dX0_closeNext_80 fX0_22 lysX0 rfl ?_
              refine s_N2V mX11_copyRow dX0_closeNext_83 okX11_copyRow lX0_59 npX11_copyRow (by decide) (by decide) (by decide) (Nat.le_of_ble_eq_true rfl) (Nat.le_of_ble_eq_true rfl) (c_copyRow rfl rfl (by decide)) (fun s1 hq => ?_)
              obtain ⟨hcp, hfc⟩ := hq
              refine n_inc dX0_closeNext_86 rfl (n_i1 _) (by decide) rfl ?_
              refine r_goto (tgt := 9) dX0_closeNext_89 (by decide) ?_
              have q9 := fun g u2 => ih (m + 1) g u2
              first
                | (rw [b_ch_no (X := X) (op := op) (n := m) (by rw [c25]; decide), hbq] at q9; exact q9 g u1 (fun c hc => by cases hc) hg hC hop h9 h10 hf (by omega) (by omega))
                | (rw [b_ch_n (X := X) (op := op) (n := m) c25 hbq] at q9; exact q9 _ _ (fun c hc => by cases hc; exact ⟨rfl, fun i hi => by rw [hcp i (by have := (x_mn hw (show m < 4 by omega)).2; omega), hf2 148 (by omega)]; exact e2 i hi⟩) hvb (c_R_cg hC2 (fun k g1 g2 => hfc k (by omega)) hs.1) (fun k hk => by rw [hfc 157 (by omega)]; exact hop2 k hk) (by rw [hfc 152 (by omega), hf2 152 (by omega), e9]; exact h9) (by rw [hfc 152 (by omega), hf2 152 (by omega), e10]; exact h10) (fun k g1 g2 g3 g4 g5 g6 => by rw [hfc k (by omega)]; exact hfo k g1 g2 g3 g4 g5 g6) (by omega) (by omega))
            · exact absurd rfl c53
      | some c =>
        show s_W G mX0_closeNext 5 0 0 _ 9 [some (.ref 150), some (.ref 1), some (.ref 147), some (.int (nI t)), some (.int (nI c)), some (.int (nI g)), some (.int (nI m))] [] u1
        have hcb := (b_ch_ok _ _ hbq)
        have hcb1 := hcb.1
        have hgc := (hb _ hbq).1
        refine r_iload dX0_closeNext_9 rfl ?_
        refine n_const 4 dX0_closeNext_11 (by decide) ?_
        refine n_cge (tgt := 92) dX0_closeNext_12 (by decide) (by omega) (by omega) (fun c12 => ?_) (fun c12 => ?_)
        · have e9 : m = 4 := by omega
          subst e9
          have hcb := b_ch_ok _ _ hbq
          have hcb1 := hcb.1
          have r := x_b_ok (op := va_up op c false) hw hcb.1 va_up_s (by rw [b_up2 hcb.2]; exact ha)
          have h5 := (x_mn hw hcb.1).2
          refine r_iload dX0_closeNext_92 rfl ?_
          refine r_iconst (v := -1) dX0_closeNext_94 (by decide) ?_
          refine r_icmp_eq (tgt := 134) dX0_closeNext_95 (by decide) (fun c95 => ?_) (fun c95 => ?_)
          · exact absurd c95 (nI_m1 (by omega))
          · refine r_aload_n dX0_closeNext_98 rfl rfl ?_
            refine s_getR dX0_closeNext_99 fX0_18 lysX0 rfl ?_
            refine s_getR dX0_closeNext_102 fX0_25 (layX10 isX10_152) rfl ?_
            refine r_iload dX0_closeNext_105 rfl ?_
            refine n_const 0 dX0_closeNext_107 (by decide) ?_
            refine a_zst (b := false) dX0_closeNext_108 (X10_open isX10_152) (by omega) (by decide) (fun s2 hs2 hf2 => ?_)
            refine r_aload_n dX0_closeNext_109 rfl rfl ?_
            refine s_getR dX0_closeNext_110 fX0_22 lysX0 rfl ?_
            refine r_aload_n dX0_closeNext_113 rfl rfl ?_
            refine s_getR dX0_closeNext_114 fX0_39 (layX7 ho) rfl ?_
            refine s_getR dX0_closeNext_117 fX0_63 (layX5 (X7_orders ho)) rfl ?_
            refine r_iload dX0_closeNext_120 rfl ?_
            refine a_ald dX0_closeNext_122 (X5_rows (X7_orders ho)) (by omega) (by decide) ?_
            refine s_N2V mX11_copyRow dX0_closeNext_123 okX11_copyRow lX0_59 npX11_copyRow (by decide) (by decide) (by decide) (Nat.le_of_ble_eq_true rfl) (Nat.le_of_ble_eq_true rfl) (c_copyRow rfl (X5_rows_row (X7_orders ho) (by omega)) (by decide)) (fun s1 hq => ?_)
            obtain ⟨hcp, hfc⟩ := hq
            refine r_aload_n dX0_closeNext_126 rfl rfl ?_
            refine s_getR dX0_closeNext_127 fX0_9 lysX0 rfl ?_
            refine r_iload_n dX0_closeNext_130 rfl rfl ?_
            refine r_iload dX0_closeNext_131 rfl ?_
            refine a_st dX0_closeNext_133 rfl (by omega) (by decide) (fun s4 hs4 hf4 => ?_)
            refine s_vret dX0_closeNext_134 rfl ?_
            refine ⟨rfl, c, hbq, ?_, fun k hk => ?_, ?_, ?_, ?_, fun k g0 g1 g2 g3 g4 g5 g6 => ?_⟩
            · refine c_R_rw2 hC hw hcb.1 (x_pt_pr hw hcb.1 r.2.1) (fun k g1 g2 g3 => by rw [hf4 k (by omega), hfc k (by omega), hf2 k (by omega)]) (fun i hi => ?_)
              show s4 (1 + 37 + c) i = nI (x_pt X c _ (183 + 5 * c + i))
              rw [x_pt_i hi, hf4 (1 + 37 + c) (by omega)]
              have q := hcp i (by omega)
              rw [hf2 160 (by omega), (hb _ hbq).2 i hi] at q
              exact q
            · rw [hf4 157 (by omega), hfc 157 (by omega), hs2]
              by_cases e : k = c
              · subst e; rw [pk_us, va_up_s]
              · rw [pk_un e, va_up_n e]; exact hop k hk
            · rw [hs4, hfc 151 (by omega), hf2 151 (by omega), hf 151 (by omega) (by omega) (by omega) (by omega) (by omega) (by omega)]
            · rw [hf4 152 (by omega), hfc 152 (by omega), hf2 152 (by omega)]; exact h9
            · rw [hf4 152 (by omega), hfc 152 (by omega), hf2 152 (by omega)]; exact h10
            · rw [hf4 k (by omega), hfc k (by omega), hf2 k (by omega)]; exact hf k g1 g2 g3 g4 g5 g6
        · refine r_aload_n dX0_closeNext_15 rfl rfl ?_
          refine s_getR dX0_closeNext_16 fX0_18 lysX0 rfl ?_
          refine s_getR dX0_closeNext_19 fX0_25 (layX10 isX10_152) rfl ?_
          refine r_iload dX0_closeNext_22 rfl ?_
          refine a_zld dX0_closeNext_24 (X10_open isX10_152) (by omega) (by decide) (hop m c12) ?_
          refine b_ifeq (tgt := 86) dX0_closeNext_25 (by decide) (fun c25 => ?_) (fun c25 => ?_)
          · refine n_inc dX0_closeNext_86 rfl (n_i1 _) (by decide) rfl ?_
            refine r_goto (tgt := 9) dX0_closeNext_89 (by decide) ?_
            have q9 := fun g u2 => ih (m + 1) g u2
            first
              | (rw [b_ch_no (X := X) (op := op) (n := m) (by rw [c25]; decide), hbq] at q9; exact q9 g u1 (fun c9 hc => by cases hc; exact hb _ hbq) hg hC hop h9 h10 hf (by omega) (by omega))
              | (rw [b_ch_y (X := X) (op := op) (n := m) c25 hbq, if_pos (by omega)] at q9; exact q9 _ _ (fun c hc => by cases hc; exact ⟨rfl, fun i hi => by rw [hcp i (by have := (x_mn hw (show m < 4 by omega)).2; omega), hf2 148 (by omega)]; exact e2 i hi⟩) hvb (c_R_cg hC2 (fun k g1 g2 => hfc k (by omega)) hs.1) (fun k hk => by rw [hfc 157 (by omega)]; exact hop2 k hk) (by rw [hfc 152 (by omega), hf2 152 (by omega), e9]; exact h9) (by rw [hfc 152 (by omega), hf2 152 (by omega), e10]; exact h10) (fun k g1 g2 g3 g4 g5 g6 => by rw [hfc k (by omega)]; exact hfo k g1 g2 g3 g4 g5 g6) (by omega) (by omega))
              | (rw [b_ch_y (X := X) (op := op) (n := m) c25 hbq, if_neg (by omega)] at q9; exact q9 g s2 (fun c9 hc => by cases hc; exact ⟨(hb _ hbq).1, fun i hi => by rw [hf2 160 (by omega), hfe 160 (by omega) (by omega) (by omega) (by omega) (by omega)]; exact (hb _ hbq).2 i hi⟩) hg hC2 hop2 (by rw [hf2 152 (by omega), e9]; exact h9) (by rw [hf2 152 (by omega), e10]; exact h10) hfo (by omega) (by omega))
          · refine r_aload_n dX0_closeNext_28 rfl rfl ?_
            refine r_aload_n dX0_closeNext_29 rfl rfl ?_
            refine r_aload_n dX0_closeNext_30 rfl rfl ?_
            refine s_getR dX0_closeNext_31 fX0_18 lysX0 rfl ?_
            refine r_iload dX0_closeNext_34 rfl ?_
            refine s_V3V mX6_explore dX0_closeNext_36 okX6_explore lX0_33 npX6_explore lysX6 rfl (by decide) (by decide) (by decide) (Nat.le_of_ble_eq_true rfl) (Nat.le_of_ble_eq_true rfl) (c_explore (op := op) (h := 152) ho isX10_152 hC hw c12 hop ⟨h9.trans hH.1, by obtain ⟨hu, hu1, hu2⟩ := hH.2; exact ⟨hu, hu1, h10.trans hu2⟩⟩ (Or.inr rfl) (by rw [b_up1 c25]; exact ha)) (fun s1 hq => ?_)
            obtain ⟨e1, e2, hC1, e5, e9, e10, hfe⟩ := hq
            refine r_aload_n dX0_closeNext_39 rfl rfl ?_
            refine s_getR dX0_closeNext_40 fX0_18 lysX0 rfl ?_
            refine s_getR dX0_closeNext_43 fX0_25 (layX10 isX10_152) rfl ?_
            refine r_iload dX0_closeNext_46 rfl ?_
            refine n_const 1 dX0_closeNext_48 (by decide) ?_
            refine a_zst (b := true) dX0_closeNext_49 (X10_open isX10_152) (by omega) (by decide) (fun s2 hs2 hf2 => ?_)
            have hvb : b_v X op m ≤ 1400 := by
              have r := x_b_ok (op := va_up op m false) hw c12 va_up_s (by rw [b_up2 c25]; exact ha)
              exact x_sp_bd r.2.2.1 r.2.2.2.2
            have hC2 : c_R X s2 1 := c_R_fr hC1 hf2 (Or.inl (by omega)) hs.1
            have hop2 : ∀ k, k < 4 → s2 157 k = bI (op k) := fun k hk => by
              rw [hs2]
              by_cases e : k = m
              · subst e; rw [pk_us, c25]
              · rw [pk_un e]
                have := e5 k hk
                rw [va_up_n e] at this
                exact this
            have hfo : (∀ k, ¬ (152 ≤ k ∧ k < 160) → k ≠ 147 → k ≠ 148 → k ≠ 149 → k ≠ 160 → ¬ (38 ≤ k ∧ k < 42) → s2 k = s k) := fun k g1 g2 g3 g4 g5 g6 => by rw [hf2 k (by omega), hfe k (by omega) g2 g3 g4 (by omega)]; exact hf k g1 g2 g3 g4 g5 g6
            refine r_iload dX0_closeNext_50 rfl ?_
            refine r_iconst (v := -1) dX0_closeNext_52 (by decide) ?_
            refine r_icmp_eq (tgt := 65) dX0_closeNext_53 (by decide) (fun c53 => ?_) (fun c53 => ?_)
            · exact absurd c53 (nI_m1 (by omega))
            · refine r_aload_n dX0_closeNext_56 rfl rfl ?_
              refine s_getI dX0_closeNext_57 fX0_53 lysX6 rfl (show s2 147 0 = nI (b_v X op m) by rw [hf2 147 (by omega)]; exact e1) ?_
              refine r_iload dX0_closeNext_60 rfl ?_
              refine n_cle (tgt := 86) dX0_closeNext_62 (by decide) (by omega) (by omega) (fun c62 => ?_) (fun c62 => ?_)
              · refine n_inc dX0_closeNext_86 rfl (n_i1 _) (by decide) rfl ?_
                refine r_goto (tgt := 9) dX0_closeNext_89 (by decide) ?_
                have q9 := fun g u2 => ih (m + 1) g u2
                first
                  | (rw [b_ch_no (X := X) (op := op) (n := m) (by rw [c25]; decide), hbq] at q9; exact q9 g u1 (fun c9 hc => by cases hc; exact hb _ hbq) hg hC hop h9 h10 hf (by omega) (by omega))
                  | (rw [b_ch_y (X := X) (op := op) (n := m) c25 hbq, if_pos (by omega)] at q9; exact q9 _ _ (fun c hc => by cases hc; exact ⟨rfl, fun i hi => by rw [hcp i (by have := (x_mn hw (show m < 4 by omega)).2; omega), hf2 148 (by omega)]; exact e2 i hi⟩) hvb (c_R_cg hC2 (fun k g1 g2 => hfc k (by omega)) hs.1) (fun k hk => by rw [hfc 157 (by omega)]; exact hop2 k hk) (by rw [hfc 152 (by omega), hf2 152 (by omega), e9]; exact h9) (by rw [hfc 152 (by omega), hf2 152 (by omega), e10]; exact h10) (fun k g1 g2 g3 g4 g5 g6 => by rw [hfc k (by omega)]; exact hfo k g1 g2 g3 g4 g5 g6) (by omega) (by omega))
                  | (rw [b_ch_y (X := X) (op := op) (n := m) c25 hbq, if_neg (by omega)] at q9; exact q9 g s2 (fun c9 hc => by cases hc; exact ⟨(hb _ hbq).1, fun i hi => by rw [hf2 160 (by omega), hfe 160 (by omega) (by omega) (by omega) (by omega) (by omega)]; exact (hb _ hbq).2 i hi⟩) hg hC2 hop2 (by rw [hf2 152 (by omega), e9]; exact h9) (by rw [hf2 152 (by omega), e10]; exact h10) hfo (by omega) (by omega))
              · refine r_iload dX0_closeNext_65 rfl ?_
                refine r_istore dX0_closeNext_67 (by decide) rfl ?_
                refine r_aload_n dX0_closeNext_69 rfl rfl ?_
                refine s_getI dX0_closeNext_70 fX0_53 lysX6 rfl (show s2 147 0 = nI (b_v X op m) by rw [hf2 147 (by omega)]; exact e1) ?_
                refine r_istore dX0_closeNext_73 (by decide) rfl ?_
                refine r_aload_n dX0_closeNext_75 rfl rfl ?_
                refine s_getR dX0_closeNext_76 fX0_56 lysX6 rfl ?_
                refine r_aload_n dX0_closeNext_79 rfl rfl ?_
                refine s_getR dX0_closeNext_80 fX0_22 lysX0 rfl ?_
                refine s_N2V mX11_copyRow dX0_closeNext_83 okX11_copyRow lX0_59 npX11_copyRow (by decide) (by decide) (by decide) (Nat.le_of_ble_eq_true rfl) (Nat.le_of_ble_eq_true rfl) (c_copyRow rfl rfl (by decide)) (fun s1 hq => ?_)
                obtain ⟨hcp, hfc⟩ := hq
                refine n_inc dX0_closeNext_86 rfl (n_i1 _) (by decide) rfl ?_
                refine r_goto (tgt := 9) dX0_closeNext_89 (by decide) ?_
                have q9 := fun g u2 => ih (m + 1) g u2
                first
                  | (rw [b_ch_no (X := X) (op := op) (n := m) (by rw [c25]; decide), hbq] at q9; exact q9 g u1 (fun c9 hc => by cases hc; exact hb _ hbq) hg hC hop h9 h10 hf (by omega) (by omega))
                  | (rw [b_ch_y (X := X) (op := op) (n := m) c25 hbq, if_pos (by omega)] at q9; exact q9 _ _ (fun c hc => by cases hc; exact ⟨rfl, fun i hi => by rw [hcp i (by have := (x_mn hw (show m < 4 by omega)).2; omega), hf2 148 (by omega)]; exact e2 i hi⟩) hvb (c_R_cg hC2 (fun k g1 g2 => hfc k (by omega)) hs.1) (fun k hk => by rw [hfc 157 (by omega)]; exact hop2 k hk) (by rw [hfc 152 (by omega), hf2 152 (by omega), e9]; exact h9) (by rw [hfc 152 (by omega), hf2 152 (by omega), e10]; exact h10) (fun k g1 g2 g3 g4 g5 g6 => by rw [hfc k (by omega)]; exact hfo k g1 g2 g3 g4 g5 g6) (by omega) (by omega))
                  | (rw [b_ch_y (X := X) (op := op) (n := m) c25 hbq, if_neg (by omega)] at q9; exact q9 g s2 (fun c9 hc => by cases hc; exact ⟨(hb _ hbq).1, fun i hi => by rw [hf2 160 (by omega), hfe 160 (by omega) (by omega) (by omega) (by omega) (by omega)]; exact (hb _ hbq).2 i hi⟩) hg hC2 hop2 (by rw [hf2 152 (by omega), e9]; exact h9) (by rw [hf2 152 (by omega), e10]; exact h10) hfo (by omega) (by omega))
  refine r_iconst (v := -1) dX0_closeNext_0 (by decide) ?_
  refine r_istore dX0_closeNext_1 (by decide) rfl ?_
  refine n_const 0 dX0_closeNext_3 (by decide) ?_
  refine r_istore dX0_closeNext_4 (by decide) rfl ?_
  refine n_const 0 dX0_closeNext_6 (by decide) ?_
  refine r_istore dX0_closeNext_7 (by decide) rfl ?_
  exact lp 5 0 0 s (fun c hc => by cases hc) (by omega) hC0 hop0 rfl rfl (fun k _ _ _ _ _ _ => rfl) (by omega) (by omega)
set_option maxRecDepth 20000 in
set_option maxHeartbeats 1000000 in
theorem c_bBuild {G : q_G} {s : s_T} {X : x_T} (hC0 : c_R X s 1) (hw0 : x_wf X) (hH : s 152 9 = -1 ∧ ∃ hu, hu ≤ 50000 ∧ s 152 10 = nI hu) : s_W G mX0_build 6 0 0 (c_V (fun s1 => c_R (x_sb X) s1 1 ∧ s1 150 0 = nI 4 ∧ (∀ k, k < 4 → s1 151 k = nI (x_sq X k)) ∧ s1 152 9 = s 152 9 ∧ s1 152 10 = s 152 10 ∧ (∀ k, ¬ (1 ≤ k ∧ k < 42) → ¬ (147 ≤ k ∧ k < 161) → s1 k = s k))) 0 (q_ent mX0_build [.ref 150, .ref 1, .ref 147]) [] s := by
  show s_W G mX0_build 6 0 0 _ 0 [some (.ref 150), some (.ref 1), some (.ref 147), none, none] [] s
  have hs := x_sz hw0
  have ho : isX7 1 := Or.inl rfl
  have ol : ∀ f t (L4 : Option Value) u1, c_R (b_st X t).1 u1 1 → (∀ q, q < 4 → u1 157 q = bI ((b_st X t).2.1 q)) → (∀ q, q < t → u1 151 q = nI ((b_st X t).2.2 q)) → u1 152 9 = s 152 9 → u1 152 10 = s 152 10 → (∀ k, ¬ (1 ≤ k ∧ k < 42) → ¬ (147 ≤ k ∧ k < 161) → u1 k = s k) → t ≤ 4 → 4 < t + f → s_W G mX0_build 6 0 0 (c_V (fun s1 => c_R (x_sb X) s1 1 ∧ s1 150 0 = nI 4 ∧ (∀ k, k < 4 → s1 151 k = nI (x_sq X k)) ∧ s1 152 9 = s 152 9 ∧ s1 152 10 = s 152 10 ∧ (∀ k, ¬ (1 ≤ k ∧ k < 42) → ¬ (147 ≤ k ∧ k < 161) → s1 k = s k))) 25 [some (.ref 150), some (.ref 1), some (.ref 147), some (.int (nI t)), L4] [] u1 := by
    intro f
    induction f with
    | zero =>
      intro t L4 u1 hC hop hsq h9 h10 hf ht hme
      exact absurd hme (by omega)
    | succ f ih =>
      intro t L4 u1 hC hop hsq h9 h10 hf ht hme
      have hiv := b_st_iv hw0 t ht
      refine r_iload_n dX0_build_25 rfl rfl ?_
      refine n_const 4 dX0_build_26 (by decide) ?_
      refine n_cge (tgt := 90) dX0_build_27 (by decide) (by omega) (by omega) (fun c27 => ?_) (fun c27 => ?_)
      · refine r_aload_n dX0_build_90 rfl rfl ?_
        refine n_const 4 dX0_build_91 (by decide) ?_
        refine a_put dX0_build_92 gX0_49 lysX0 rfl rfl rfl (fun s2 hs2 hf2 => ?_)
        refine s_vret dX0_build_95 rfl ?_
        have e9 : t = 4 := by omega
        subst e9
        refine ⟨rfl, c_R_fr hC hf2 (Or.inl (by omega)) (x_sz hiv.1.1).1, by rw [hs2, pk_us], fun k hk => by rw [hf2 151 (by omega)]; exact hsq k hk, by rw [hf2 152 (by omega)]; exact h9, by rw [hf2 152 (by omega)]; exact h10, fun k g1 g2 => by rw [hf2 k (by omega)]; exact hf k g1 g2⟩
      · obtain ⟨c, hch, hc4, hco⟩ := b_iv_ch hiv c27
        have hic := b_iv_c hiv hc4 hco
        refine r_aload_n dX0_build_30 rfl rfl ?_
        refine r_aload_n dX0_build_31 rfl rfl ?_
        refine r_aload_n dX0_build_32 rfl rfl ?_
        refine r_iload_n dX0_build_33 rfl rfl ?_
        refine s_V3V mX0_closeNext dX0_build_34 okX0_closeNext lX0_29 npX0_closeNext lysX0 rfl (by decide) (by decide) (by decide) (Nat.le_of_ble_eq_true rfl) (Nat.le_of_ble_eq_true rfl) (c_closeNext hC hiv.1.1 hop ⟨h9.trans hH.1, by obtain ⟨hu, hu1, hu2⟩ := hH.2; exact ⟨hu, hu1, h10.trans hu2⟩⟩ hiv.1.2 (by rw [hch]; exact fun z => by cases z) c27) (fun s1 hq => ?_)
        obtain ⟨c', r1, r2, r3, r4, r5, r6, r7⟩ := hq
        rw [hch] at r1
        cases r1
        refine n_const 0 dX0_build_37 (by decide) ?_
        refine r_istore dX0_build_38 (by decide) rfl ?_
        have il : ∀ f2 k u1, c_R (b_re (va_up (b_st X t).2.1 c false) (b_st X t).2.2 k (x_bX (b_st X t).1 (va_up (b_st X t).2.1 c false) c)) u1 1 → (∀ q, q < 4 → u1 157 q = bI (va_up (b_st X t).2.1 c false q)) → (∀ q, q < t + 1 → u1 151 q = nI (va_up (b_st X t).2.2 t c q)) → u1 152 9 = s 152 9 → u1 152 10 = s 152 10 → (∀ k, ¬ (1 ≤ k ∧ k < 42) → ¬ (147 ≤ k ∧ k < 161) → u1 k = s k) → k ≤ t → t < k + f2 → s_W G mX0_build 6 0 0 (c_V (fun s1 => c_R (x_sb X) s1 1 ∧ s1 150 0 = nI 4 ∧ (∀ k, k < 4 → s1 151 k = nI (x_sq X k)) ∧ s1 152 9 = s 152 9 ∧ s1 152 10 = s 152 10 ∧ (∀ k, ¬ (1 ≤ k ∧ k < 42) → ¬ (147 ≤ k ∧ k < 161) → s1 k = s k))) 40 [some (.ref 150), some (.ref 1), some (.ref 147), some (.int (nI t)), some (.int (nI k))] [] u1 := by
          intro f2
          induction f2 with
          | zero =>
            intro k u1 hC hop hsq h9 h10 hf hk hme
            exact absurd hme (by omega)
          | succ f2 ih2 =>
            intro k u1 hC hop hsq h9 h10 hf hk hme
            have hk4 := hiv.2.1
            have hre := b_re_ok hic.1.1 hic.1.2 hic.2 k hk
            refine r_iload dX0_build_40 rfl ?_
            refine r_iload_n dX0_build_42 rfl rfl ?_
            refine n_cge (tgt := 84) dX0_build_43 (by decide) (by omega) (by omega) (fun c43 => ?_) (fun c43 => ?_)
            · refine n_inc dX0_build_84 rfl (n_i1 _) (by decide) rfl ?_
              refine r_goto (tgt := 25) dX0_build_87 (by decide) ?_
              have e9 : k = t := by omega
              subst e9
              have hst := b_st_s hch
              refine ih (k + 1) _ u1 ?_ ?_ ?_ h9 h10 hf (by omega) (by omega)
              · rw [hst]; exact hC
              · rw [hst]; exact hop
              · rw [hst]; exact fun q hq => hsq q (by omega)
            · have hsk := hic.2 k c43
              have hsk1 := hsk.1
              have hace : x_ac (b_re (va_up (b_st X t).2.1 c false) (b_st X t).2.2 k (x_bX (b_st X t).1 (va_up (b_st X t).2.1 c false) c)) (va_up (va_up (b_st X t).2.1 c false) ((b_st X t).2.2 k) true) := x_ac_mono hre.2 (fun m9 hm9 => by by_cases e : m9 = (b_st X t).2.2 k; (· subst e; exact va_up_s); rw [va_up_n e]; exact hm9)
              have hb9 := x_b_ok hre.1 hsk.1 hsk.2 hace
              refine r_aload_n dX0_build_46 rfl rfl ?_
              refine r_aload_n dX0_build_47 rfl rfl ?_
              refine r_aload_n dX0_build_48 rfl rfl ?_
              refine s_getR dX0_build_49 fX0_18 lysX0 rfl ?_
              refine r_aload_n dX0_build_52 rfl rfl ?_
              refine s_getR dX0_build_53 fX0_9 lysX0 rfl ?_
              refine r_iload dX0_build_56 rfl ?_
              refine a_ld dX0_build_58 rfl (by omega) (by decide) (show u1 151 k = nI ((b_st X t).2.2 k) by rw [hsq k (by omega), va_up_n (by omega)]) ?_
              refine s_V3V mX6_explore dX0_build_59 okX6_explore lX0_33 npX6_explore lysX6 rfl (by decide) (by decide) (by decide) (Nat.le_of_ble_eq_true rfl) (Nat.le_of_ble_eq_true rfl) (c_explore (op := va_up (b_st X t).2.1 c false) (h := 152) ho isX10_152 hC hre.1 hsk.1 hop ⟨h9.trans hH.1, by obtain ⟨hu, hu1, hu2⟩ := hH.2; exact ⟨hu, hu1, h10.trans hu2⟩⟩ (Or.inr rfl) hace) (fun s1 hq => ?_)
              rw [b_up3 hsk.2] at hq
              obtain ⟨e1, e2, hC1, e5, e9, e10, hfe⟩ := hq
              refine r_aload_n dX0_build_62 rfl rfl ?_
              refine r_aload_n dX0_build_63 rfl rfl ?_
              refine s_getR dX0_build_64 fX0_39 (layX7 ho) rfl ?_
              refine r_aload_n dX0_build_67 rfl rfl ?_
              refine s_getR dX0_build_68 fX0_9 lysX0 rfl ?_
              refine r_iload dX0_build_71 rfl ?_
              refine a_ld dX0_build_73 rfl (by omega) (by decide) (show s1 151 k = nI ((b_st X t).2.2 k) by rw [hfe 151 (by omega) (by omega) (by omega) (by omega) (by omega), hsq k (by omega), va_up_n (by omega)]) ?_
              refine s_V2I mX6_install dX0_build_74 okX6_install lX0_45 npX6_install lysX6 rfl (by decide) (by decide) (by decide) (Nat.le_of_ble_eq_true rfl) (Nat.le_of_ble_eq_true rfl) (c_install (o := 1) ho hC1 hre.1 hsk.1 hb9.2.1 e2) (fun x s1 hq => ?_)
              obtain ⟨rfl, hX, hf2⟩ := hq
              refine r_pop dX0_build_77 rfl ?_
              refine n_inc dX0_build_78 rfl (n_i1 _) (by decide) rfl ?_
              refine r_goto (tgt := 40) dX0_build_81 (by decide) ?_
              refine ih2 (k + 1) s1 hX (fun q hq => by rw [hf2 157 (by omega)]; exact e5 q hq) (fun q hq => by rw [hf2 151 (by omega), hfe 151 (by omega) (by omega) (by omega) (by omega) (by omega)]; exact hsq q hq) (by rw [hf2 152 (by omega), e9]; exact h9) (by rw [hf2 152 (by omega), e10]; exact h10) (fun q g1 g2 => by rw [hf2 q (by omega), hfe q (by omega) (by omega) (by omega) (by omega) (by omega)]; exact hf q g1 g2) (by omega) (by omega)
        refine il (t + 1) 0 s1 r2 r3 (fun q hq => ?_) (r5.trans h9) (r6.trans h10) (fun k g1 g2 => by rw [r7 k (by omega) (by omega) (by omega) (by omega) (by omega) (by omega) (by omega)]; exact hf k g1 g2) (by omega) (by omega)
        rw [r4]
        by_cases e : q = t
        · subst e; rw [pk_us, va_up_s]
        · rw [pk_un e, va_up_n e]; exact hsq q (by omega)
  have l0 : ∀ f m u1, (∀ q, q < m → u1 157 q = bI true) → s_fr 157 158 s u1 → m ≤ 4 → 4 < m + f → s_W G mX0_build 6 0 0 (c_V (fun s1 => c_R (x_sb X) s1 1 ∧ s1 150 0 = nI 4 ∧ (∀ k, k < 4 → s1 151 k = nI (x_sq X k)) ∧ s1 152 9 = s 152 9 ∧ s1 152 10 = s 152 10 ∧ (∀ k, ¬ (1 ≤ k ∧ k < 42) → ¬ (147 ≤ k ∧ k < 161) → s1 k = s k))) 2 [some (.ref 150), some (.ref 1), some (.ref 147), some (.int (nI m)), none] [] u1 := by
    intro f
    induction f with
    | zero =>
      intro m u1 hA hf hm hme
      exact absurd hme (by omega)
    | succ f ih =>
      intro m u1 hA hf hm hme
      refine r_iload_n dX0_build_2 rfl rfl ?_
      refine n_const 4 dX0_build_3 (by decide) ?_
      refine n_cge (tgt := 23) dX0_build_4 (by decide) (by omega) (by omega) (fun c4 => ?_) (fun c4 => ?_)
      · refine n_const 0 dX0_build_23 (by decide) ?_
        refine r_istore_n dX0_build_24 rfl (by decide) rfl ?_
        have e9 : m = 4 := by omega
        subst e9
        exact ol 5 0 _ u1 (c_R_fr hC0 hf (Or.inl (by omega)) hs.1) hA (fun q hq => absurd hq (by omega)) (by rw [hf 152 (by omega)]) (by rw [hf 152 (by omega)]) (fun k g1 g2 => hf k (by omega)) (by omega) (by omega)
      · refine r_aload_n dX0_build_7 rfl rfl ?_
        refine s_getR dX0_build_8 fX0_18 lysX0 rfl ?_
        refine s_getR dX0_build_11 fX0_25 (layX10 isX10_152) rfl ?_
        refine r_iload_n dX0_build_14 rfl rfl ?_
        refine n_const 1 dX0_build_15 (by decide) ?_
        refine a_zst (b := true) dX0_build_16 (X10_open isX10_152) (by omega) (by decide) (fun s2 hs2 hf2 => ?_)
        refine n_inc dX0_build_17 rfl (n_i1 _) (by decide) rfl ?_
        refine r_goto (tgt := 2) dX0_build_20 (by decide) ?_
        refine ih (m + 1) s2 (fun q hq => ?_) (s_fr_tr hf hf2) (by omega) (by omega)
        rw [hs2]
        by_cases e : q = m
        · subst e; rw [pk_us]
        · rw [pk_un e]; exact hA q (by omega)
  refine n_const 0 dX0_build_0 (by decide) ?_
  refine r_istore_n dX0_build_1 rfl (by decide) rfl ?_
  exact l0 5 0 s (fun q hq => absurd hq (by omega)) s_fr_rf (by omega) (by omega)
theorem c_Z_sh {z : z_T} {X : x_T} {sq : Nat → Nat} {s s1 : s_T} (h : c_Z z s) (hz : z_wf z) (hX : c_R X s1 1) (h150 : s1 150 0 = nI 4) (h151 : ∀ k, k < 4 → s1 151 k = nI (sq k)) (h9 : s1 152 9 = s 152 9) (h10 : s1 152 10 = s 152 10) (hf : ∀ k, ¬ (1 ≤ k ∧ k < 42) → ¬ (147 ≤ k ∧ k < 161) → s1 k = s k) : c_Z (z_sh z X sq) s1 := by
  obtain ⟨a1, a2, a3, a4, a5, a6, a7, a8, a9, a10, a11, a12⟩ := h
  refine ⟨hX, fun q => c_R_cg (a2 q) (fun k h1 h2 => hf k (by omega) (by omega)) (hz.2.1 q).1.1, ?_, fun h hh => ?_, ?_, ?_, ?_, ?_, ?_, ?_, fun _ => h151, ?_⟩
  · rw [hf 0 (by omega) (by omega)]; exact a3
  · rw [hf (h + 5) (by omega) (by omega), hf h (by omega) (by omega)]; exact a4 h hh
  · rw [h9, h10]; exact a5
  · rw [hf 206 (by omega) (by omega)]; exact a6
  · rw [hf 207 (by omega) (by omega)]; exact a7
  · rw [hf 210 (by omega) (by omega)]; exact a8
  · rw [hf 211 (by omega) (by omega)]; exact a9
  · exact h150
  · rw [hf 161 (by omega) (by omega)]; exact a12
set_option maxRecDepth 20000 in
set_option maxHeartbeats 1000000 in
theorem c_shiftBottlenecks {G : q_G} {s : s_T} {z : z_T} (hz : z_wf z) (hZ : c_Z z s) : s_W G mX11_shiftBottlenecks 8 0 0 (c_P [] (A_shiftBottlenecks z) s) 0 (q_ent mX11_shiftBottlenecks [.ref 0]) [] s := by
  show s_W G mX11_shiftBottlenecks 8 0 0 _ 0 [some (.ref 0)] [] s
  have hw := hz.1.1
  have hs := x_sz hw
  have hC := hZ.1
  have hf : s_fr 0 212 s s := s_fr_rf
  have ho : isX7 1 := Or.inl rfl
  refine r_aload_n dX11_shiftBottlenecks_0 rfl rfl ?_
  refine s_getR dX11_shiftBottlenecks_1 fX11_56 lysX11 rfl ?_
  refine r_aload_n dX11_shiftBottlenecks_4 rfl rfl ?_
  refine s_getR dX11_shiftBottlenecks_5 fX11_10 lysX11 rfl ?_
  refine r_aload_n dX11_shiftBottlenecks_8 rfl rfl ?_
  refine s_getR dX11_shiftBottlenecks_9 fX11_49 lysX11 rfl ?_
  refine s_V2V mX0_build dX11_shiftBottlenecks_12 okX0_build lX11_321 npX0_build lysX0 rfl (by decide) (by decide) (by decide) (Nat.le_of_ble_eq_true rfl) (Nat.le_of_ble_eq_true rfl) (c_bBuild hC hw hZ.2.2.2.2.1) (fun s1 hq => ?_)
  obtain ⟨r1, r2, r3, r4, r5, r6⟩ := hq
  have hz2 := z_wf_sh hz
  have hZ2 := c_Z_sh hZ hz r1 r2 r3 r4 r5 r6
  replace hf : s_fr 0 212 s s1 := fun k hk => r6 k (by omega) (by omega)
  refine r_aload_n dX11_shiftBottlenecks_15 rfl rfl ?_
  refine s_V0I mX11_presentSpan dX11_shiftBottlenecks_16 okX11_presentSpan lX11_234 npX11_presentSpan lysX11 rfl (by decide) (by decide) (by decide) (Nat.le_of_ble_eq_true rfl) (Nat.le_of_ble_eq_true rfl) (c_presentSpan hz2 hZ2) (fun x s1 hq => ?_)
  obtain ⟨rfl, ht2, hC2, hZ3, hf2⟩ := hq
  refine s_iret dX11_shiftBottlenecks_19 rfl rfl ?_
  exact c_P_s rfl hZ3 (s_fr_tr hf hf2)
end
