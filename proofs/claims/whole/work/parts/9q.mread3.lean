section
set_option maxRecDepth 20000 in
set_option maxHeartbeats 1000000 in
theorem c_readJob {G : q_G} {s : s_T} {t : Nat → Nat} {n j p0 f0 jn : Nat} {X0 : x_T} (hT : v_T t n s) (hq0 : w_sq t n (3 * j) = some (0, p0)) (i30 : s 212 30 = nI p0) (i31 : s 212 31 = -1) (if0 : n < p0 + f0) (iX : w_fl t n f0 0 p0 = w_fl t n 81 0 0) (hX0 : v_X t n X0 j s) (hJ : ∀ X1 jb st, w_ex t n X0 j = .inl (X1, jb, st) → jb = jn) (hg : x_gd X0) (hjn : jn ≤ 100) : s_W G mX12_readJob 6 0 0 (c_V (fun s1 => ∃ j', j ≤ j' ∧ v_A t n X0 j' (fun q => ¬ (q < n ∧ t q = 47)) s1 ∧ (∀ X1 jb st, w_ex t n X0 (j' + 1) = .inl (X1, jb, st) → jb = jn + 1) ∧ r_F s s1)) 0 (q_ent mX12_readJob [.ref 212, .int (nI jn)]) [] s := by
  show s_W G mX12_readJob 6 0 0 _ 0 [some (.ref 212), some (.int (nI jn)), none, none, none, none, none, none] [] s
  have hn8 := hT.2.1
  have hkk := w_sq_ok (3 * j) 0 p0 hq0
  have lp : ∀ md (L2 : Option Value) (L3 : Option Value) (L4 : Option Value) f9 jj p0 f0 ix u1, v_T t n u1 → w_sq t n (3 * jj) = some (3, p0) → u1 212 30 = nI p0 → u1 212 31 = -1 → n < p0 + f0 → w_fl t n f0 3 p0 = w_fl t n 81 0 0 → v_X t n X0 jj u1 → v_K t n X0 jj jn ix md → r_F s u1 → j < jj → ix + j < jj → 80 < jj + f9 → s_W G mX12_readJob 6 0 0 (c_V (fun s1 => ∃ j', j ≤ j' ∧ v_A t n X0 j' (fun q => ¬ (q < n ∧ t q = 47)) s1 ∧ (∀ X1 jb st, w_ex t n X0 (j' + 1) = .inl (X1, jb, st) → jb = jn + 1) ∧ r_F s s1)) 121 [some (.ref 212), some (.int (nI jn)), L2, L3, L4, some (.int (nI md)), some (.int (nI ix)), some (.int (nI 1))] [] u1 := by
    intro md L2 L3 L4
    intro f9
    induction f9 with
    | zero =>
      intro jj p0 f0 ix u1 hT hq0 i30 i31 if0 iX hX0 hK hF hjj hix hme
      have hkk := w_sq_ok _ _ _ hq0
      have hn8 := hT.2.1
      exact absurd hme (by omega)
    | succ f9 ih =>
      intro jj p0 f0 ix u1 hT hq0 i30 i31 if0 iX hX0 hK hF hjj hix hme
      have hn8 := hT.2.1
      have hkk := w_sq_ok _ _ _ hq0
      refine r_iload dX12_readJob_121 rfl ?_
      refine n_ifeq (tgt := 156) dX12_readJob_123 (by decide) (by omega) (fun c123 => ?_) (fun c123 => ?_)
      · exact absurd c123 (by decide)
      · refine r_aload_n dX12_readJob_126 rfl rfl ?_
        refine s_getI dX12_readJob_127 fX12_292 lysX12 rfl i31 ?_
        refine r_if_ge (tgt := 156) dX12_readJob_130 (by decide) (fun c130 => ?_) (fun c130 => ?_)
        · exact absurd c130 (by decide)
        · refine r_aload_n dX12_readJob_133 rfl rfl ?_
          refine r_iload_n dX12_readJob_134 rfl rfl ?_
          refine r_iload dX12_readJob_135 rfl ?_
          refine r_iload dX12_readJob_137 rfl ?_
          refine s_V3V mX12_readOperation dX12_readJob_139 okX12_readOperation lX12_321 npX12_readOperation lysX12 rfl (by decide) (by decide) (by decide) (Nat.le_of_ble_eq_true rfl) (Nat.le_of_ble_eq_true rfl) (c_readOperation hT hq0 i30 i31 if0 iX hX0 hK hg hjn (by omega)) (fun s1 hq => ?_)
          obtain ⟨hA, hK2, hF1⟩ := hq
          replace hT := v_T_F hT hF1
          replace hF := r_F_tr hF hF1
          rcases hA with ⟨p, f, hq5, hc0, h30, h31, hfu, hX5, -, hX9⟩ | ⟨⟨q9, p9, hR9, hq80, h31, h30⟩, hYY⟩
          · have hkk := w_sq_ok _ _ _ hq5
            have hcl := w_c_le (t := t) (k := 5) hkk.2.2.2
            refine n_inc dX12_readJob_142 rfl (n_i1 _) (by decide) rfl ?_
            refine r_aload_n dX12_readJob_145 rfl rfl ?_
            refine n_bip 47 dX12_readJob_146 (by decide) ?_
            refine s_V1I mX12_takes dX12_readJob_148 okX12_takes lX12_298 npX12_takes lysX12 rfl (by decide) (by decide) (by decide) (Nat.le_of_ble_eq_true rfl) (Nat.le_of_ble_eq_true rfl) (c_takesL (c := 47) hT h30 h31 hcl (by decide)) (fun x s1 hq => ?_)
            obtain ⟨rfl, e30, e31, -, hg2⟩ := hq
            replace hT := v_T_G hT hg2
            replace hX9 := v_X_G hX9 hg2
            replace hF := r_F_tr hF (r_F_G hg2)
            refine r_istore dX12_readJob_151 (by decide) rfl ?_
            refine r_goto (tgt := 121) dX12_readJob_153 (by decide) ?_
            by_cases e47 : p + w_c t n 5 p < n ∧ t (p + w_c t n 5 p) = 47
            · rw [if_pos e47] at e30
              rw [decide_eq_true e47]
              have h3 : w_nx 5 (t (p + w_c t n 5 p)) = some 3 := by rw [w_nx_5, if_pos e47.2]
              obtain ⟨f', rfl⟩ : ∃ f', f = f' + 1 := ⟨f - 1, by omega⟩
              rw [w_fl_s hc0 e47.1 h3] at hX5
              have hq6 : w_sq t n (3 * (jj + 1)) = some (3, p + w_c t n 5 p + 1) := by
                rw [show 3 * (jj + 1) = 3 * jj + 2 + 1 by omega]
                exact w_sq_s hq5 hc0 e47.1 h3
              have hkk2 := w_sq_ok _ _ _ hq6
              exact ih (jj + 1) _ f' (ix + 1) s1 hT hq6 e30 (e31.trans h31) (by omega) hX5 hX9 hK2 hF (by omega) (by omega) (by omega)
            · rw [if_neg e47] at e30
              rw [decide_eq_false e47]
              refine r_iload dX12_readJob_121 rfl ?_
              refine b_ifeq (tgt := 156) dX12_readJob_123 (by decide) (fun c123 => ?_) (fun c123 => ?_)
              · refine s_vret dX12_readJob_156 rfl ?_
                exact ⟨rfl, jj, by omega, Or.inl ⟨p, f, hq5, hc0, e30, e31.trans h31, hfu, hX5, e47, hX9⟩, fun X1 jb st h9 => (hK2 X1 jb st h9).1, hF⟩
              · exact absurd c123 (by decide)
          · refine n_inc dX12_readJob_142 rfl (n_i1 _) (by decide) rfl ?_
            refine r_aload_n dX12_readJob_145 rfl rfl ?_
            refine n_bip 47 dX12_readJob_146 (by decide) ?_
            refine s_V1I mX12_takes dX12_readJob_148 okX12_takes lX12_298 npX12_takes lysX12 rfl (by decide) (by decide) (by decide) (Nat.le_of_ble_eq_true rfl) (Nat.le_of_ble_eq_true rfl) (c_takesD h31 hq80 h30) (fun x s1 hq => ?_)
            obtain ⟨rfl, e30, e31, -, hg2⟩ := hq
            replace hF := r_F_tr hF (r_F_G hg2)
            refine r_istore dX12_readJob_151 (by decide) rfl ?_
            refine r_goto (tgt := 121) dX12_readJob_153 (by decide) ?_
            refine r_iload dX12_readJob_121 rfl ?_
            refine b_ifeq (tgt := 156) dX12_readJob_123 (by decide) (fun c123 => ?_) (fun c123 => ?_)
            · refine s_vret dX12_readJob_156 rfl ?_
              exact ⟨rfl, jj, by omega, Or.inr ⟨⟨q9, p9, hR9, hq80, e31.trans h31, e30⟩, v_Y_G hYY hg2⟩, fun X1 jb st h9 => (hK2 X1 jb st h9).1, hF⟩
            · exact absurd c123 (by decide)
  have hF : r_G s s := r_G_rf
  have hS : v_S t n (3 * j) 0 True s := Or.inl ⟨p0, f0, hq0, i30, i31, if0, iX, trivial⟩
  refine r_aload_n dX12_readJob_0 rfl rfl ?_
  refine n_const 3 dX12_readJob_1 (by decide) ?_
  refine s_V1V mX12_readNumber dX12_readJob_2 okX12_readNumber lX12_311 npX12_readNumber lysX12 rfl (by decide) (by decide) (by decide) (Nat.le_of_ble_eq_true rfl) (Nat.le_of_ble_eq_true rfl) (c_rdNum (k := 0) hT hS) (fun s1 hq => ?_)
  obtain ⟨hN, hg1⟩ := hq
  replace hN := v_N_Q hN
  replace hT := v_T_G hT hg1
  replace hF := r_G_tr hF hg1
  obtain ⟨x2, hx2⟩ : ∃ x2, x2 = s1 212 32 := ⟨_, rfl⟩
  rw [← hx2] at hN
  refine r_aload_n dX12_readJob_5 rfl rfl ?_
  refine s_getI dX12_readJob_6 fX12_289 lysX12 rfl hx2.symm ?_
  refine r_istore_n dX12_readJob_9 rfl (by decide) rfl ?_
  refine r_aload_n dX12_readJob_10 rfl rfl ?_
  refine n_bip 44 dX12_readJob_11 (by decide) ?_
  refine s_V1V mX12_wants dX12_readJob_13 okX12_wants lX12_314 npX12_wants lysX12 rfl (by decide) (by decide) (by decide) (Nat.le_of_ble_eq_true rfl) (Nat.le_of_ble_eq_true rfl) (c_wnt (k' := 1) (c := 44) hT hN (by decide) w_nx_0 (by decide)) (fun s1 hq => ?_)
  obtain ⟨hS, hg1⟩ := hq
  replace hT := v_T_G hT hg1
  replace hF := r_G_tr hF hg1
  refine r_aload_n dX12_readJob_16 rfl rfl ?_
  refine n_const 3 dX12_readJob_17 (by decide) ?_
  refine s_V1V mX12_readNumber dX12_readJob_18 okX12_readNumber lX12_311 npX12_readNumber lysX12 rfl (by decide) (by decide) (by decide) (Nat.le_of_ble_eq_true rfl) (Nat.le_of_ble_eq_true rfl) (c_rdNum (k := 1) hT hS) (fun s1 hq => ?_)
  obtain ⟨hN, hg1⟩ := hq
  replace hN := v_N_Q hN
  replace hT := v_T_G hT hg1
  replace hF := r_G_tr hF hg1
  obtain ⟨x3, hx3⟩ : ∃ x3, x3 = s1 212 32 := ⟨_, rfl⟩
  rw [← hx3] at hN
  refine r_aload_n dX12_readJob_21 rfl rfl ?_
  refine s_getI dX12_readJob_22 fX12_289 lysX12 rfl hx3.symm ?_
  refine r_istore_n dX12_readJob_25 rfl (by decide) rfl ?_
  refine r_aload_n dX12_readJob_26 rfl rfl ?_
  refine n_bip 44 dX12_readJob_27 (by decide) ?_
  refine s_V1V mX12_wants dX12_readJob_29 okX12_wants lX12_314 npX12_wants lysX12 rfl (by decide) (by decide) (by decide) (Nat.le_of_ble_eq_true rfl) (Nat.le_of_ble_eq_true rfl) (c_wnt (k' := 2) (c := 44) hT hN (by decide) w_nx_1 (by decide)) (fun s1 hq => ?_)
  obtain ⟨hS, hg1⟩ := hq
  replace hT := v_T_G hT hg1
  replace hF := r_G_tr hF hg1
  refine r_aload_n dX12_readJob_32 rfl rfl ?_
  refine n_const 3 dX12_readJob_33 (by decide) ?_
  refine s_V1V mX12_readNumber dX12_readJob_34 okX12_readNumber lX12_311 npX12_readNumber lysX12 rfl (by decide) (by decide) (by decide) (Nat.le_of_ble_eq_true rfl) (Nat.le_of_ble_eq_true rfl) (c_rdNum (k := 2) hT hS) (fun s1 hq => ?_)
  obtain ⟨hN, hg1⟩ := hq
  replace hN := v_N_Q hN
  replace hT := v_T_G hT hg1
  replace hF := r_G_tr hF hg1
  obtain ⟨x4, hx4⟩ : ∃ x4, x4 = s1 212 32 := ⟨_, rfl⟩
  rw [← hx4] at hN
  refine r_aload_n dX12_readJob_37 rfl rfl ?_
  refine s_getI dX12_readJob_38 fX12_289 lysX12 rfl hx4.symm ?_
  refine r_istore dX12_readJob_41 (by decide) rfl ?_
  refine r_aload_n dX12_readJob_43 rfl rfl ?_
  refine n_bip 58 dX12_readJob_44 (by decide) ?_
  refine s_V1V mX12_wants dX12_readJob_46 okX12_wants lX12_314 npX12_wants lysX12 rfl (by decide) (by decide) (by decide) (Nat.le_of_ble_eq_true rfl) (Nat.le_of_ble_eq_true rfl) (c_wnt (k' := 3) (c := 58) hT hN (by decide) w_nx_2 (by decide)) (fun s1 hq => ?_)
  obtain ⟨hS, hg1⟩ := hq
  replace hT := v_T_G hT hg1
  replace hF := r_G_tr hF hg1
  have hn8 := hT.2.1
  have hX9 := v_X_G hX0 hF
  have w1 := w_va_le (t := t) (n := n) (i := 3 * j)
  have w2 := w_va_le (t := t) (n := n) (i := 3 * j + 1)
  have w3 := w_va_le (t := t) (n := n) (i := 3 * j + 2)
  have hki : w_ki t n (3 * j) = 0 := w_ki_e hq0
  have hK9 : ∀ X1 jb st, w_ex t n X0 (j + 1) = .inl (X1, jb, st) → jb = jn + 1 := fun X2 jb2 st2 h9 => by
    cases he : w_ex t n X0 j with
    | inr w => rw [w_ex_r he] at h9; cases h9
    | inl y =>
      obtain ⟨X1, jb, st⟩ := y
      have hlk := hJ X1 jb st he
      rw [w_ex_l he, hki] at h9
      have h9 : (if 0 = 0 then (if X1 0 = 5 then (.inr (jb, 1, 0) : w_E) else if w_jf (w_va t n (3 * j)) (w_va t n (3 * j + 1)) (w_va t n (3 * j + 2)) = true then .inl (x_addJob X1 (w_va t n (3 * j)) (w_va t n (3 * j + 1)) (w_va t n (3 * j + 2)), jb + 1, 0) else .inr (jb, 2, 0)) else _) = _ := h9
      rw [if_pos rfl] at h9
      by_cases h5 : X1 0 = 5
      · rw [if_pos h5] at h9; cases h9
      · rw [if_neg h5] at h9
        by_cases hjf : w_jf (w_va t n (3 * j)) (w_va t n (3 * j + 1)) (w_va t n (3 * j + 2)) = true
        · rw [if_pos hjf] at h9; cases h9; omega
        · rw [if_neg hjf] at h9; cases h9
  rcases hS with ⟨p, f, hq1, h30, h31, hfu, hX5, ⟨⟨⟨-, e2⟩, e3⟩, e4⟩⟩ | ⟨q9, p9, hR9, hq80, h31, h30⟩
  · rw [show 3 * j + 2 + 1 = 3 * (j + 1) by omega] at hq1
    rw [e2, e3, e4]
    rcases hX9 with ⟨X1, jb, st, he, hM, g33⟩ | ⟨w, Y, he, hM, hgY, g33, g34, g35⟩
    · have hok := w_ex_ok (t := t) (n := n) hg j
      rw [he] at hok
      have hg1X : x_gd X1 := hok.1
      have hz1 := x_sz hg1X.1
      have hlk := hJ X1 jb st he
      subst hlk
      by_cases h5 : X1 0 = 5
      · have hex2 : w_ex t n X0 (j + 1) = .inr (jb, 1, 0) := by
          rw [w_ex_l he, hki]
          show (if 0 = 0 then _ else _) = _
          rw [if_pos rfl, if_pos h5]
        refine r_aload_n dX12_readJob_49 rfl rfl ?_
        refine s_getR dX12_readJob_50 fX12_9 lysX12 rfl ?_
        refine n_const 0 dX12_readJob_53 (by decide) ?_
        refine m_ld dX12_readJob_54 hM (by omega) ?_
        refine n_const 5 dX12_readJob_55 (by decide) ?_
        refine n_cne (tgt := 69) dX12_readJob_56 (by decide) (by omega) (by omega) (fun c56 => ?_) (fun c56 => ?_)
        · exact absurd h5 c56
        · refine r_aload_n dX12_readJob_59 rfl rfl ?_
          refine r_iload_n dX12_readJob_60 rfl rfl ?_
          refine n_const 1 dX12_readJob_61 (by decide) ?_
          refine n_const 0 dX12_readJob_62 (by decide) ?_
          refine s_V3V mX12_cannot dX12_readJob_63 okX12_cannot lX12_318 npX12_cannot lysX12 rfl (by decide) (by decide) (by decide) (Nat.le_of_ble_eq_true rfl) (Nat.le_of_ble_eq_true rfl) (c_cannot g33) (fun s1 hq => ?_)
          obtain ⟨y1, y2, y3, k1, k2⟩ := hq
          refine r_goto (tgt := 86) dX12_readJob_66 (by decide) ?_
          refine r_aload_n dX12_readJob_86 rfl rfl ?_
          refine s_getI dX12_readJob_87 fX12_302 lysX12 rfl y1 ?_
          refine r_iconst (v := -1) dX12_readJob_90 (by decide) ?_
          refine r_icmp_ne (tgt := 112) dX12_readJob_91 (by decide) (fun c91 => ?_) (fun c91 => ?_)
          · refine n_const 0 dX12_readJob_112 (by decide) ?_
            refine r_istore dX12_readJob_113 (by decide) rfl ?_
            refine n_const 0 dX12_readJob_115 (by decide) ?_
            refine r_istore dX12_readJob_116 (by decide) rfl ?_
            refine n_const 1 dX12_readJob_118 (by decide) ?_
            refine r_istore dX12_readJob_119 (by decide) rfl ?_
            exact lp 0 _ _ _ 81 (j + 1) p f 0 s1 (v_T_F hT ⟨fun q hq9 => k1 q (by omega), fun k a _ => k2 k a⟩) hq1 (by rw [k1 30 (by omega)]; exact h30) (by rw [k1 31 (by omega)]; exact h31) hfu hX5 (Or.inr ⟨(jb, 1, 0), X1, hex2, fun k hk => by rw [k2 213 (by omega)]; exact hM k hk, hg1X, y1, y2, y3⟩) (fun X1 jb st h9 => by rw [hex2] at h9; cases h9) (r_F_tr (r_F_G hF) ⟨fun q hq9 => k1 q (by omega), fun k a _ => k2 k a⟩) (by omega) (by omega) (by omega)
          · exact absurd c91 (nI_m1 (by omega))
      · by_cases hjf : w_jf (w_va t n (3 * j)) (w_va t n (3 * j + 1)) (w_va t n (3 * j + 2)) = true
        · have hex2 : w_ex t n X0 (j + 1) = .inl (x_addJob X1 (w_va t n (3 * j)) (w_va t n (3 * j + 1)) (w_va t n (3 * j + 2)), jb + 1, 0) := by
            rw [w_ex_l he, hki]
            show (if 0 = 0 then _ else _) = _
            rw [if_pos rfl, if_neg h5, if_pos hjf]
          refine r_aload_n dX12_readJob_49 rfl rfl ?_
          refine s_getR dX12_readJob_50 fX12_9 lysX12 rfl ?_
          refine n_const 0 dX12_readJob_53 (by decide) ?_
          refine m_ld dX12_readJob_54 hM (by omega) ?_
          refine n_const 5 dX12_readJob_55 (by decide) ?_
          refine n_cne (tgt := 69) dX12_readJob_56 (by decide) (by omega) (by omega) (fun c56 => ?_) (fun c56 => ?_)
          · refine r_iload_n dX12_readJob_69 rfl rfl ?_
            refine r_iload_n dX12_readJob_70 rfl rfl ?_
            refine r_iload dX12_readJob_71 rfl ?_
            refine s_S3I mX12_areJobProperties dX12_readJob_73 okX12_areJobProperties lX12_98 npX12_areJobProperties (by decide) (by decide) (by decide) (Nat.le_of_ble_eq_true rfl) (Nat.le_of_ble_eq_true rfl) c_mAreJobProperties (fun x s1 hq => ?_)
            obtain ⟨e9, rfl⟩ := hq
            replace e9 := e9.symm
            subst e9
            rw [w_jf_e w1 w2 w3]
            refine b_ifne (tgt := 86) dX12_readJob_76 (by decide) (fun c76 => ?_) (fun c76 => ?_)
            · refine r_aload_n dX12_readJob_86 rfl rfl ?_
              refine s_getI dX12_readJob_87 fX12_302 lysX12 rfl g33 ?_
              refine r_iconst (v := -1) dX12_readJob_90 (by decide) ?_
              refine r_icmp_ne (tgt := 112) dX12_readJob_91 (by decide) (fun c91 => ?_) (fun c91 => ?_)
              · exact absurd rfl c91
              · refine r_aload_n dX12_readJob_94 rfl rfl ?_
                refine s_getI dX12_readJob_95 fX12_292 lysX12 rfl h31 ?_
                refine r_if_ge (tgt := 112) dX12_readJob_98 (by decide) (fun c98 => ?_) (fun c98 => ?_)
                · exact absurd c98 (by decide)
                · refine r_aload_n dX12_readJob_101 rfl rfl ?_
                  refine r_iload_n dX12_readJob_102 rfl rfl ?_
                  refine r_iload_n dX12_readJob_103 rfl rfl ?_
                  refine r_iload dX12_readJob_104 rfl ?_
                  refine s_V3I mX12_createJob dX12_readJob_106 okX12_createJob lX12_102 npX12_createJob lysX12 rfl (by decide) (by decide) (by decide) (Nat.le_of_ble_eq_true rfl) (Nat.le_of_ble_eq_true rfl) (c_createJob hM (by omega)) (fun x s1 hq => ?_)
                  obtain ⟨rfl, hM2, hf7⟩ := hq
                  refine r_goto (tgt := 113) dX12_readJob_109 (by decide) ?_
                  refine r_istore dX12_readJob_113 (by decide) rfl ?_
                  refine n_const 0 dX12_readJob_115 (by decide) ?_
                  refine r_istore dX12_readJob_116 (by decide) rfl ?_
                  refine n_const 1 dX12_readJob_118 (by decide) ?_
                  refine r_istore dX12_readJob_119 (by decide) rfl ?_
                  exact lp (X1 0) _ _ _ 81 (j + 1) p f 0 s1 (v_T_F hT (r_F_fr hf7)) hq1 (by rw [hf7 212 (by omega)]; exact h30) (by rw [hf7 212 (by omega)]; exact h31) hfu hX5 (Or.inl ⟨_, _, _, hex2, hM2, by rw [hf7 212 (by omega)]; exact g33⟩) (fun X2 jb2 st2 h9 => by rw [hex2] at h9; cases h9; exact ⟨rfl, rfl, by rw [x_addJob_at, if_pos rfl]⟩) (r_F_tr (r_F_G hF) (r_F_fr hf7)) (by omega) (by omega) (by omega)
            · exact absurd hjf (by rw [c76]; decide)
          · exact absurd c56 h5
        · have hex2 : w_ex t n X0 (j + 1) = .inr (jb, 2, 0) := by
            rw [w_ex_l he, hki]
            show (if 0 = 0 then _ else _) = _
            rw [if_pos rfl, if_neg h5, if_neg hjf]
          refine r_aload_n dX12_readJob_49 rfl rfl ?_
          refine s_getR dX12_readJob_50 fX12_9 lysX12 rfl ?_
          refine n_const 0 dX12_readJob_53 (by decide) ?_
          refine m_ld dX12_readJob_54 hM (by omega) ?_
          refine n_const 5 dX12_readJob_55 (by decide) ?_
          refine n_cne (tgt := 69) dX12_readJob_56 (by decide) (by omega) (by omega) (fun c56 => ?_) (fun c56 => ?_)
          · refine r_iload_n dX12_readJob_69 rfl rfl ?_
            refine r_iload_n dX12_readJob_70 rfl rfl ?_
            refine r_iload dX12_readJob_71 rfl ?_
            refine s_S3I mX12_areJobProperties dX12_readJob_73 okX12_areJobProperties lX12_98 npX12_areJobProperties (by decide) (by decide) (by decide) (Nat.le_of_ble_eq_true rfl) (Nat.le_of_ble_eq_true rfl) c_mAreJobProperties (fun x s1 hq => ?_)
            obtain ⟨e9, rfl⟩ := hq
            replace e9 := e9.symm
            subst e9
            rw [w_jf_e w1 w2 w3]
            refine b_ifne (tgt := 86) dX12_readJob_76 (by decide) (fun c76 => ?_) (fun c76 => ?_)
            · exact absurd c76 hjf
            · refine r_aload_n dX12_readJob_79 rfl rfl ?_
              refine r_iload_n dX12_readJob_80 rfl rfl ?_
              refine n_const 2 dX12_readJob_81 (by decide) ?_
              refine n_const 0 dX12_readJob_82 (by decide) ?_
              refine s_V3V mX12_cannot dX12_readJob_83 okX12_cannot lX12_318 npX12_cannot lysX12 rfl (by decide) (by decide) (by decide) (Nat.le_of_ble_eq_true rfl) (Nat.le_of_ble_eq_true rfl) (c_cannot g33) (fun s1 hq => ?_)
              obtain ⟨y1, y2, y3, k1, k2⟩ := hq
              refine r_aload_n dX12_readJob_86 rfl rfl ?_
              refine s_getI dX12_readJob_87 fX12_302 lysX12 rfl y1 ?_
              refine r_iconst (v := -1) dX12_readJob_90 (by decide) ?_
              refine r_icmp_ne (tgt := 112) dX12_readJob_91 (by decide) (fun c91 => ?_) (fun c91 => ?_)
              · refine n_const 0 dX12_readJob_112 (by decide) ?_
                refine r_istore dX12_readJob_113 (by decide) rfl ?_
                refine n_const 0 dX12_readJob_115 (by decide) ?_
                refine r_istore dX12_readJob_116 (by decide) rfl ?_
                refine n_const 1 dX12_readJob_118 (by decide) ?_
                refine r_istore dX12_readJob_119 (by decide) rfl ?_
                exact lp 0 _ _ _ 81 (j + 1) p f 0 s1 (v_T_F hT ⟨fun q hq9 => k1 q (by omega), fun k a _ => k2 k a⟩) hq1 (by rw [k1 30 (by omega)]; exact h30) (by rw [k1 31 (by omega)]; exact h31) hfu hX5 (Or.inr ⟨(jb, 2, 0), X1, hex2, fun k hk => by rw [k2 213 (by omega)]; exact hM k hk, hg1X, y1, y2, y3⟩) (fun X1 jb st h9 => by rw [hex2] at h9; cases h9) (r_F_tr (r_F_G hF) ⟨fun q hq9 => k1 q (by omega), fun k a _ => k2 k a⟩) (by omega) (by omega) (by omega)
              · exact absurd c91 (nI_m1 (by omega))
          · exact absurd c56 h5
    · have hzY := x_sz hgY.1
      have hok := w_ex_ok (t := t) (n := n) hg j
      rw [he] at hok
      have hw80 : w.1 ≤ j := hok.1
      refine r_aload_n dX12_readJob_49 rfl rfl ?_
      refine s_getR dX12_readJob_50 fX12_9 lysX12 rfl ?_
      refine n_const 0 dX12_readJob_53 (by decide) ?_
      refine m_ld dX12_readJob_54 hM (by omega) ?_
      refine n_const 5 dX12_readJob_55 (by decide) ?_
      refine n_cne (tgt := 69) dX12_readJob_56 (by decide) (by omega) (by omega) (fun c56 => ?_) (fun c56 => ?_)
      · refine r_iload_n dX12_readJob_69 rfl rfl ?_
        refine r_iload_n dX12_readJob_70 rfl rfl ?_
        refine r_iload dX12_readJob_71 rfl ?_
        refine s_S3I mX12_areJobProperties dX12_readJob_73 okX12_areJobProperties lX12_98 npX12_areJobProperties (by decide) (by decide) (by decide) (Nat.le_of_ble_eq_true rfl) (Nat.le_of_ble_eq_true rfl) c_mAreJobProperties (fun x s1 hq => ?_)
        obtain ⟨e9, rfl⟩ := hq
        replace e9 := e9.symm
        subst e9
        rw [w_jf_e w1 w2 w3]
        refine b_ifne (tgt := 86) dX12_readJob_76 (by decide) (fun c76 => ?_) (fun c76 => ?_)
        · refine r_aload_n dX12_readJob_86 rfl rfl ?_
          refine s_getI dX12_readJob_87 fX12_302 lysX12 rfl g33 ?_
          refine r_iconst (v := -1) dX12_readJob_90 (by decide) ?_
          refine r_icmp_ne (tgt := 112) dX12_readJob_91 (by decide) (fun c91 => ?_) (fun c91 => ?_)
          · refine n_const 0 dX12_readJob_112 (by decide) ?_
            refine r_istore dX12_readJob_113 (by decide) rfl ?_
            refine n_const 0 dX12_readJob_115 (by decide) ?_
            refine r_istore dX12_readJob_116 (by decide) rfl ?_
            refine n_const 1 dX12_readJob_118 (by decide) ?_
            refine r_istore dX12_readJob_119 (by decide) rfl ?_
            exact lp 0 _ _ _ 81 (j + 1) p f 0 _ hT hq1 h30 h31 hfu hX5 (Or.inr ⟨w, Y, w_ex_r he, hM, hgY, g33, g34, g35⟩) (fun X1 jb st h9 => by rw [w_ex_r he] at h9; cases h9) (r_F_G hF) (by omega) (by omega) (by omega)
          · exact absurd c91 (nI_m1 (by omega))
        · refine r_aload_n dX12_readJob_79 rfl rfl ?_
          refine r_iload_n dX12_readJob_80 rfl rfl ?_
          refine n_const 2 dX12_readJob_81 (by decide) ?_
          refine n_const 0 dX12_readJob_82 (by decide) ?_
          refine s_V3V mX12_cannot dX12_readJob_83 okX12_cannot lX12_318 npX12_cannot lysX12 rfl (by decide) (by decide) (by decide) (Nat.le_of_ble_eq_true rfl) (Nat.le_of_ble_eq_true rfl) (c_cannotN g33 (by omega)) (fun s1 hq => ?_)
          have e9 := hq.symm
          subst e9
          refine r_aload_n dX12_readJob_86 rfl rfl ?_
          refine s_getI dX12_readJob_87 fX12_302 lysX12 rfl g33 ?_
          refine r_iconst (v := -1) dX12_readJob_90 (by decide) ?_
          refine r_icmp_ne (tgt := 112) dX12_readJob_91 (by decide) (fun c91 => ?_) (fun c91 => ?_)
          · refine n_const 0 dX12_readJob_112 (by decide) ?_
            refine r_istore dX12_readJob_113 (by decide) rfl ?_
            refine n_const 0 dX12_readJob_115 (by decide) ?_
            refine r_istore dX12_readJob_116 (by decide) rfl ?_
            refine n_const 1 dX12_readJob_118 (by decide) ?_
            refine r_istore dX12_readJob_119 (by decide) rfl ?_
            exact lp 0 _ _ _ 81 (j + 1) p f 0 _ hT hq1 h30 h31 hfu hX5 (Or.inr ⟨w, Y, w_ex_r he, hM, hgY, g33, g34, g35⟩) (fun X1 jb st h9 => by rw [w_ex_r he] at h9; cases h9) (r_F_G hF) (by omega) (by omega) (by omega)
          · exact absurd c91 (nI_m1 (by omega))
      · refine r_aload_n dX12_readJob_59 rfl rfl ?_
        refine r_iload_n dX12_readJob_60 rfl rfl ?_
        refine n_const 1 dX12_readJob_61 (by decide) ?_
        refine n_const 0 dX12_readJob_62 (by decide) ?_
        refine s_V3V mX12_cannot dX12_readJob_63 okX12_cannot lX12_318 npX12_cannot lysX12 rfl (by decide) (by decide) (by decide) (Nat.le_of_ble_eq_true rfl) (Nat.le_of_ble_eq_true rfl) (c_cannotN g33 (by omega)) (fun s1 hq => ?_)
        have e9 := hq.symm
        subst e9
        refine r_goto (tgt := 86) dX12_readJob_66 (by decide) ?_
        refine r_aload_n dX12_readJob_86 rfl rfl ?_
        refine s_getI dX12_readJob_87 fX12_302 lysX12 rfl g33 ?_
        refine r_iconst (v := -1) dX12_readJob_90 (by decide) ?_
        refine r_icmp_ne (tgt := 112) dX12_readJob_91 (by decide) (fun c91 => ?_) (fun c91 => ?_)
        · refine n_const 0 dX12_readJob_112 (by decide) ?_
          refine r_istore dX12_readJob_113 (by decide) rfl ?_
          refine n_const 0 dX12_readJob_115 (by decide) ?_
          refine r_istore dX12_readJob_116 (by decide) rfl ?_
          refine n_const 1 dX12_readJob_118 (by decide) ?_
          refine r_istore dX12_readJob_119 (by decide) rfl ?_
          exact lp 0 _ _ _ 81 (j + 1) p f 0 _ hT hq1 h30 h31 hfu hX5 (Or.inr ⟨w, Y, w_ex_r he, hM, hgY, g33, g34, g35⟩) (fun X1 jb st h9 => by rw [w_ex_r he] at h9; cases h9) (r_F_G hF) (by omega) (by omega) (by omega)
        · exact absurd c91 (nI_m1 (by omega))
  · rcases hX9 with ⟨X1, jb, st, he, hM, g33⟩ | ⟨w, Y, he, hM, hgY, g33, g34, g35⟩
    · have hok := w_ex_ok (t := t) (n := n) hg j
      rw [he] at hok
      have hg1X : x_gd X1 := hok.1
      have hz1 := x_sz hg1X.1
      have hlk := hJ X1 jb st he
      subst hlk
      by_cases h5 : X1 0 = 5
      · refine r_aload_n dX12_readJob_49 rfl rfl ?_
        refine s_getR dX12_readJob_50 fX12_9 lysX12 rfl ?_
        refine n_const 0 dX12_readJob_53 (by decide) ?_
        refine m_ld dX12_readJob_54 hM (by omega) ?_
        refine n_const 5 dX12_readJob_55 (by decide) ?_
        refine n_cne (tgt := 69) dX12_readJob_56 (by decide) (by omega) (by omega) (fun c56 => ?_) (fun c56 => ?_)
        · exact absurd h5 c56
        · refine r_aload_n dX12_readJob_59 rfl rfl ?_
          refine r_iload_n dX12_readJob_60 rfl rfl ?_
          refine n_const 1 dX12_readJob_61 (by decide) ?_
          refine n_const 0 dX12_readJob_62 (by decide) ?_
          refine s_V3V mX12_cannot dX12_readJob_63 okX12_cannot lX12_318 npX12_cannot lysX12 rfl (by decide) (by decide) (by decide) (Nat.le_of_ble_eq_true rfl) (Nat.le_of_ble_eq_true rfl) (c_cannot g33) (fun s1 hq => ?_)
          obtain ⟨y1, y2, y3, k1, k2⟩ := hq
          refine r_goto (tgt := 86) dX12_readJob_66 (by decide) ?_
          refine r_aload_n dX12_readJob_86 rfl rfl ?_
          refine s_getI dX12_readJob_87 fX12_302 lysX12 rfl y1 ?_
          refine r_iconst (v := -1) dX12_readJob_90 (by decide) ?_
          refine r_icmp_ne (tgt := 112) dX12_readJob_91 (by decide) (fun c91 => ?_) (fun c91 => ?_)
          · refine n_const 0 dX12_readJob_112 (by decide) ?_
            refine r_istore dX12_readJob_113 (by decide) rfl ?_
            refine n_const 0 dX12_readJob_115 (by decide) ?_
            refine r_istore dX12_readJob_116 (by decide) rfl ?_
            refine n_const 1 dX12_readJob_118 (by decide) ?_
            refine r_istore dX12_readJob_119 (by decide) rfl ?_
            refine r_iload dX12_readJob_121 rfl ?_
            refine n_ifeq (tgt := 156) dX12_readJob_123 (by decide) (by omega) (fun c123 => ?_) (fun c123 => ?_)
            · exact absurd c123 (by decide)
            · refine r_aload_n dX12_readJob_126 rfl rfl ?_
              refine s_getI dX12_readJob_127 fX12_292 lysX12 rfl (show s1 212 31 = nI q9 by rw [k1 31 (by omega)]; exact h31) ?_
              refine r_if_ge (tgt := 156) dX12_readJob_130 (by decide) (fun c130 => ?_) (fun c130 => ?_)
              · refine s_vret dX12_readJob_156 rfl ?_
                exact ⟨rfl, j, by omega, Or.inr ⟨⟨q9, p9, hR9, hq80, by rw [k1 31 (by omega)]; exact h31, by rw [k1 30 (by omega)]; exact h30⟩, ⟨X1, fun k hk => by rw [k2 213 (by omega)]; exact hM k hk, hg1X⟩⟩, hK9, r_F_tr (r_F_G hF) ⟨fun q hq9 => k1 q (by omega), fun k a _ => k2 k a⟩⟩
              · exact absurd (nI_nn (by omega)) c130
          · exact absurd c91 (nI_m1 (by omega))
      · by_cases hjf : (iIn x2 0 99 && iIn x3 0 200 && iIn x4 0 9) = true
        · refine r_aload_n dX12_readJob_49 rfl rfl ?_
          refine s_getR dX12_readJob_50 fX12_9 lysX12 rfl ?_
          refine n_const 0 dX12_readJob_53 (by decide) ?_
          refine m_ld dX12_readJob_54 hM (by omega) ?_
          refine n_const 5 dX12_readJob_55 (by decide) ?_
          refine n_cne (tgt := 69) dX12_readJob_56 (by decide) (by omega) (by omega) (fun c56 => ?_) (fun c56 => ?_)
          · refine r_iload_n dX12_readJob_69 rfl rfl ?_
            refine r_iload_n dX12_readJob_70 rfl rfl ?_
            refine r_iload dX12_readJob_71 rfl ?_
            refine s_S3I mX12_areJobProperties dX12_readJob_73 okX12_areJobProperties lX12_98 npX12_areJobProperties (by decide) (by decide) (by decide) (Nat.le_of_ble_eq_true rfl) (Nat.le_of_ble_eq_true rfl) c_mAreJobProperties (fun x s1 hq => ?_)
            obtain ⟨e9, rfl⟩ := hq
            replace e9 := e9.symm
            subst e9
            refine b_ifne (tgt := 86) dX12_readJob_76 (by decide) (fun c76 => ?_) (fun c76 => ?_)
            · refine r_aload_n dX12_readJob_86 rfl rfl ?_
              refine s_getI dX12_readJob_87 fX12_302 lysX12 rfl g33 ?_
              refine r_iconst (v := -1) dX12_readJob_90 (by decide) ?_
              refine r_icmp_ne (tgt := 112) dX12_readJob_91 (by decide) (fun c91 => ?_) (fun c91 => ?_)
              · exact absurd rfl c91
              · refine r_aload_n dX12_readJob_94 rfl rfl ?_
                refine s_getI dX12_readJob_95 fX12_292 lysX12 rfl h31 ?_
                refine r_if_ge (tgt := 112) dX12_readJob_98 (by decide) (fun c98 => ?_) (fun c98 => ?_)
                · refine n_const 0 dX12_readJob_112 (by decide) ?_
                  refine r_istore dX12_readJob_113 (by decide) rfl ?_
                  refine n_const 0 dX12_readJob_115 (by decide) ?_
                  refine r_istore dX12_readJob_116 (by decide) rfl ?_
                  refine n_const 1 dX12_readJob_118 (by decide) ?_
                  refine r_istore dX12_readJob_119 (by decide) rfl ?_
                  refine r_iload dX12_readJob_121 rfl ?_
                  refine n_ifeq (tgt := 156) dX12_readJob_123 (by decide) (by omega) (fun c123 => ?_) (fun c123 => ?_)
                  · exact absurd c123 (by decide)
                  · refine r_aload_n dX12_readJob_126 rfl rfl ?_
                    refine s_getI dX12_readJob_127 fX12_292 lysX12 rfl h31 ?_
                    refine r_if_ge (tgt := 156) dX12_readJob_130 (by decide) (fun c130 => ?_) (fun c130 => ?_)
                    · refine s_vret dX12_readJob_156 rfl ?_
                      exact ⟨rfl, j, by omega, Or.inr ⟨⟨q9, p9, hR9, hq80, h31, h30⟩, ⟨X1, hM, hg1X⟩⟩, hK9, r_F_G hF⟩
                    · exact absurd (nI_nn (by omega)) c130
                · exact absurd (nI_nn (by omega)) c98
            · exact absurd hjf (by rw [c76]; decide)
          · exact absurd c56 h5
        · refine r_aload_n dX12_readJob_49 rfl rfl ?_
          refine s_getR dX12_readJob_50 fX12_9 lysX12 rfl ?_
          refine n_const 0 dX12_readJob_53 (by decide) ?_
          refine m_ld dX12_readJob_54 hM (by omega) ?_
          refine n_const 5 dX12_readJob_55 (by decide) ?_
          refine n_cne (tgt := 69) dX12_readJob_56 (by decide) (by omega) (by omega) (fun c56 => ?_) (fun c56 => ?_)
          · refine r_iload_n dX12_readJob_69 rfl rfl ?_
            refine r_iload_n dX12_readJob_70 rfl rfl ?_
            refine r_iload dX12_readJob_71 rfl ?_
            refine s_S3I mX12_areJobProperties dX12_readJob_73 okX12_areJobProperties lX12_98 npX12_areJobProperties (by decide) (by decide) (by decide) (Nat.le_of_ble_eq_true rfl) (Nat.le_of_ble_eq_true rfl) c_mAreJobProperties (fun x s1 hq => ?_)
            obtain ⟨e9, rfl⟩ := hq
            replace e9 := e9.symm
            subst e9
            refine b_ifne (tgt := 86) dX12_readJob_76 (by decide) (fun c76 => ?_) (fun c76 => ?_)
            · exact absurd c76 hjf
            · refine r_aload_n dX12_readJob_79 rfl rfl ?_
              refine r_iload_n dX12_readJob_80 rfl rfl ?_
              refine n_const 2 dX12_readJob_81 (by decide) ?_
              refine n_const 0 dX12_readJob_82 (by decide) ?_
              refine s_V3V mX12_cannot dX12_readJob_83 okX12_cannot lX12_318 npX12_cannot lysX12 rfl (by decide) (by decide) (by decide) (Nat.le_of_ble_eq_true rfl) (Nat.le_of_ble_eq_true rfl) (c_cannot g33) (fun s1 hq => ?_)
              obtain ⟨y1, y2, y3, k1, k2⟩ := hq
              refine r_aload_n dX12_readJob_86 rfl rfl ?_
              refine s_getI dX12_readJob_87 fX12_302 lysX12 rfl y1 ?_
              refine r_iconst (v := -1) dX12_readJob_90 (by decide) ?_
              refine r_icmp_ne (tgt := 112) dX12_readJob_91 (by decide) (fun c91 => ?_) (fun c91 => ?_)
              · refine n_const 0 dX12_readJob_112 (by decide) ?_
                refine r_istore dX12_readJob_113 (by decide) rfl ?_
                refine n_const 0 dX12_readJob_115 (by decide) ?_
                refine r_istore dX12_readJob_116 (by decide) rfl ?_
                refine n_const 1 dX12_readJob_118 (by decide) ?_
                refine r_istore dX12_readJob_119 (by decide) rfl ?_
                refine r_iload dX12_readJob_121 rfl ?_
                refine n_ifeq (tgt := 156) dX12_readJob_123 (by decide) (by omega) (fun c123 => ?_) (fun c123 => ?_)
                · exact absurd c123 (by decide)
                · refine r_aload_n dX12_readJob_126 rfl rfl ?_
                  refine s_getI dX12_readJob_127 fX12_292 lysX12 rfl (show s1 212 31 = nI q9 by rw [k1 31 (by omega)]; exact h31) ?_
                  refine r_if_ge (tgt := 156) dX12_readJob_130 (by decide) (fun c130 => ?_) (fun c130 => ?_)
                  · refine s_vret dX12_readJob_156 rfl ?_
                    exact ⟨rfl, j, by omega, Or.inr ⟨⟨q9, p9, hR9, hq80, by rw [k1 31 (by omega)]; exact h31, by rw [k1 30 (by omega)]; exact h30⟩, ⟨X1, fun k hk => by rw [k2 213 (by omega)]; exact hM k hk, hg1X⟩⟩, hK9, r_F_tr (r_F_G hF) ⟨fun q hq9 => k1 q (by omega), fun k a _ => k2 k a⟩⟩
                  · exact absurd (nI_nn (by omega)) c130
              · exact absurd c91 (nI_m1 (by omega))
          · exact absurd c56 h5
    · have hzY := x_sz hgY.1
      have hok := w_ex_ok (t := t) (n := n) hg j
      rw [he] at hok
      have hw80 : w.1 ≤ j := hok.1
      refine r_aload_n dX12_readJob_49 rfl rfl ?_
      refine s_getR dX12_readJob_50 fX12_9 lysX12 rfl ?_
      refine n_const 0 dX12_readJob_53 (by decide) ?_
      refine m_ld dX12_readJob_54 hM (by omega) ?_
      refine n_const 5 dX12_readJob_55 (by decide) ?_
      refine n_cne (tgt := 69) dX12_readJob_56 (by decide) (by omega) (by omega) (fun c56 => ?_) (fun c56 => ?_)
      · refine r_iload_n dX12_readJob_69 rfl rfl ?_
        refine r_iload_n dX12_readJob_70 rfl rfl ?_
        refine r_iload dX12_readJob_71 rfl ?_
        refine s_S3I mX12_areJobProperties dX12_readJob_73 okX12_areJobProperties lX12_98 npX12_areJobProperties (by decide) (by decide) (by decide) (Nat.le_of_ble_eq_true rfl) (Nat.le_of_ble_eq_true rfl) c_mAreJobProperties (fun x s1 hq => ?_)
        obtain ⟨e9, rfl⟩ := hq
        replace e9 := e9.symm
        subst e9
        refine b_ifne (tgt := 86) dX12_readJob_76 (by decide) (fun c76 => ?_) (fun c76 => ?_)
        · refine r_aload_n dX12_readJob_86 rfl rfl ?_
          refine s_getI dX12_readJob_87 fX12_302 lysX12 rfl g33 ?_
          refine r_iconst (v := -1) dX12_readJob_90 (by decide) ?_
          refine r_icmp_ne (tgt := 112) dX12_readJob_91 (by decide) (fun c91 => ?_) (fun c91 => ?_)
          · refine n_const 0 dX12_readJob_112 (by decide) ?_
            refine r_istore dX12_readJob_113 (by decide) rfl ?_
            refine n_const 0 dX12_readJob_115 (by decide) ?_
            refine r_istore dX12_readJob_116 (by decide) rfl ?_
            refine n_const 1 dX12_readJob_118 (by decide) ?_
            refine r_istore dX12_readJob_119 (by decide) rfl ?_
            refine r_iload dX12_readJob_121 rfl ?_
            refine n_ifeq (tgt := 156) dX12_readJob_123 (by decide) (by omega) (fun c123 => ?_) (fun c123 => ?_)
            · exact absurd c123 (by decide)
            · refine r_aload_n dX12_readJob_126 rfl rfl ?_
              refine s_getI dX12_readJob_127 fX12_292 lysX12 rfl h31 ?_
              refine r_if_ge (tgt := 156) dX12_readJob_130 (by decide) (fun c130 => ?_) (fun c130 => ?_)
              · refine s_vret dX12_readJob_156 rfl ?_
                exact ⟨rfl, j, by omega, Or.inr ⟨⟨q9, p9, hR9, hq80, h31, h30⟩, ⟨Y, hM, hgY⟩⟩, hK9, r_F_G hF⟩
              · exact absurd (nI_nn (by omega)) c130
          · exact absurd c91 (nI_m1 (by omega))
        · refine r_aload_n dX12_readJob_79 rfl rfl ?_
          refine r_iload_n dX12_readJob_80 rfl rfl ?_
          refine n_const 2 dX12_readJob_81 (by decide) ?_
          refine n_const 0 dX12_readJob_82 (by decide) ?_
          refine s_V3V mX12_cannot dX12_readJob_83 okX12_cannot lX12_318 npX12_cannot lysX12 rfl (by decide) (by decide) (by decide) (Nat.le_of_ble_eq_true rfl) (Nat.le_of_ble_eq_true rfl) (c_cannotN g33 (by omega)) (fun s1 hq => ?_)
          have e9 := hq.symm
          subst e9
          refine r_aload_n dX12_readJob_86 rfl rfl ?_
          refine s_getI dX12_readJob_87 fX12_302 lysX12 rfl g33 ?_
          refine r_iconst (v := -1) dX12_readJob_90 (by decide) ?_
          refine r_icmp_ne (tgt := 112) dX12_readJob_91 (by decide) (fun c91 => ?_) (fun c91 => ?_)
          · refine n_const 0 dX12_readJob_112 (by decide) ?_
            refine r_istore dX12_readJob_113 (by decide) rfl ?_
            refine n_const 0 dX12_readJob_115 (by decide) ?_
            refine r_istore dX12_readJob_116 (by decide) rfl ?_
            refine n_const 1 dX12_readJob_118 (by decide) ?_
            refine r_istore dX12_readJob_119 (by decide) rfl ?_
            refine r_iload dX12_readJob_121 rfl ?_
            refine n_ifeq (tgt := 156) dX12_readJob_123 (by decide) (by omega) (fun c123 => ?_) (fun c123 => ?_)
            · exact absurd c123 (by decide)
            · refine r_aload_n dX12_readJob_126 rfl rfl ?_
              refine s_getI dX12_readJob_127 fX12_292 lysX12 rfl h31 ?_
              refine r_if_ge (tgt := 156) dX12_readJob_130 (by decide) (fun c130 => ?_) (fun c130 => ?_)
              · refine s_vret dX12_readJob_156 rfl ?_
                exact ⟨rfl, j, by omega, Or.inr ⟨⟨q9, p9, hR9, hq80, h31, h30⟩, ⟨Y, hM, hgY⟩⟩, hK9, r_F_G hF⟩
              · exact absurd (nI_nn (by omega)) c130
          · exact absurd c91 (nI_m1 (by omega))
      · refine r_aload_n dX12_readJob_59 rfl rfl ?_
        refine r_iload_n dX12_readJob_60 rfl rfl ?_
        refine n_const 1 dX12_readJob_61 (by decide) ?_
        refine n_const 0 dX12_readJob_62 (by decide) ?_
        refine s_V3V mX12_cannot dX12_readJob_63 okX12_cannot lX12_318 npX12_cannot lysX12 rfl (by decide) (by decide) (by decide) (Nat.le_of_ble_eq_true rfl) (Nat.le_of_ble_eq_true rfl) (c_cannotN g33 (by omega)) (fun s1 hq => ?_)
        have e9 := hq.symm
        subst e9
        refine r_goto (tgt := 86) dX12_readJob_66 (by decide) ?_
        refine r_aload_n dX12_readJob_86 rfl rfl ?_
        refine s_getI dX12_readJob_87 fX12_302 lysX12 rfl g33 ?_
        refine r_iconst (v := -1) dX12_readJob_90 (by decide) ?_
        refine r_icmp_ne (tgt := 112) dX12_readJob_91 (by decide) (fun c91 => ?_) (fun c91 => ?_)
        · refine n_const 0 dX12_readJob_112 (by decide) ?_
          refine r_istore dX12_readJob_113 (by decide) rfl ?_
          refine n_const 0 dX12_readJob_115 (by decide) ?_
          refine r_istore dX12_readJob_116 (by decide) rfl ?_
          refine n_const 1 dX12_readJob_118 (by decide) ?_
          refine r_istore dX12_readJob_119 (by decide) rfl ?_
          refine r_iload dX12_readJob_121 rfl ?_
          refine n_ifeq (tgt := 156) dX12_readJob_123 (by decide) (by omega) (fun c123 => ?_) (fun c123 => ?_)
          · exact absurd c123 (by decide)
          · refine r_aload_n dX12_readJob_126 rfl rfl ?_
            refine s_getI dX12_readJob_127 fX12_292 lysX12 rfl h31 ?_
            refine r_if_ge (tgt := 156) dX12_readJob_130 (by decide) (fun c130 => ?_) (fun c130 => ?_)
            · refine s_vret dX12_readJob_156 rfl ?_
              exact ⟨rfl, j, by omega, Or.inr ⟨⟨q9, p9, hR9, hq80, h31, h30⟩, ⟨Y, hM, hgY⟩⟩, hK9, r_F_G hF⟩
            · exact absurd (nI_nn (by omega)) c130
        · exact absurd c91 (nI_m1 (by omega))
end
