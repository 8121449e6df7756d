/-! ===== the class: the bounds of machines and of the shop ===== -/
theorem x_bi_0 {X : x_T} {m f t left bd : Nat} {lf : Nat → Nat} (h : left = 0) : x_bi X m (f + 1) t lf left bd = bd := by
  show (if _ then _ else _) = _
  rw [if_pos h]
theorem x_bi_n {X : x_T} {m f t left bd : Nat} {lf : Nat → Nat} (h : ¬ left = 0) (h2 : x_bh X m lf t (X 1) = none) : x_bi X m (f + 1) t lf left bd = x_bi X m f (t + 1) lf left bd := by
  show (if _ then _ else _) = _
  rw [if_neg h, h2]
theorem x_bi_d {X : x_T} {m f t left bd b : Nat} {lf : Nat → Nat} (h : ¬ left = 0) (h2 : x_bh X m lf t (X 1) = some b) (h3 : ¬ lf b = 1) : x_bi X m (f + 1) t lf left bd = x_bi X m f (t + 1) (va_up lf b (lf b - 1)) left bd := by
  show (if _ then _ else _) = _
  rw [if_neg h, h2]
  exact if_neg h3
theorem x_bi_e {X : x_T} {m f t left bd b : Nat} {lf : Nat → Nat} (h : ¬ left = 0) (h2 : x_bh X m lf t (X 1) = some b) (h3 : lf b = 1) : x_bi X m (f + 1) t lf left bd = x_bi X m f (t + 1) (va_up lf b (lf b - 1)) (left - 1) (max bd (t + 1 + x_tl X b)) := by
  show (if _ then _ else _) = _
  rw [if_neg h, h2]
  exact if_pos h3
set_option maxRecDepth 20000 in
set_option maxHeartbeats 1000000 in
theorem c_ofMachine {G : q_G} {s : s_T} {X : x_T} {o m : Nat} (ho : isX7 o) (hC : c_R X s o) (hw : x_wf X) (hm : m < 4) : s_W G mX1_ofMachine 3 0 0 (c_I (fun y9 s1 => y9 = nI (x_bd X m) ∧ s_fr 202 206 s s1)) 0 (q_ent mX1_ofMachine [.ref 202, .ref o, .int (nI m)]) [] s := by
  show s_W G mX1_ofMachine 3 0 0 _ 0 [some (.ref 202), some (.ref o), some (.int (nI m)), none, none, none, none] [] s
  have hs := x_sz hw
  have ho2 := o7_le ho
  obtain ⟨B, hE0⟩ : ∃ B, B = x_bd X m := ⟨_, rfl⟩
  have hcn : x_ct (x_om X m) (X 1) ≤ 5 := by rw [x_om_n hw hm]; exact (x_mn hw hm).2
  have lp : ∀ f t lf left bd (L6 : Option Value) s1, s1 202 0 = nI (x_ct (x_om X m) (X 1)) → c_bd X m lf (X 1) s1 → (∀ k, k < X 1 → lf k ≤ 30) → s_fr 202 206 s s1 → bd ≤ 1200 → left ≤ 5 → x_bi X m f t lf left bd = B → t + f = 1000 → s_W G mX1_ofMachine 3 0 0 (c_I (fun y9 s1 => y9 = nI (x_bd X m) ∧ s_fr 202 206 s s1)) 17 [some (.ref 202), some (.ref o), some (.int (nI m)), some (.int (nI left)), some (.int (nI bd)), some (.int (nI t)), L6] [] s1 := by
    intro f
    induction f with
    | zero =>
      intro t lf left bd L6 s1 h0 hA hlf hf hbd hl hE hme
      refine r_iload dX1_ofMachine_17 rfl ?_
      refine n_sip 1000 dX1_ofMachine_19 (by decide) ?_
      refine n_cge (tgt := 92) dX1_ofMachine_22 (by decide) (by omega) (by omega) (fun c22 => ?_) (fun c22 => ?_)
      · refine r_iload dX1_ofMachine_92 rfl ?_
        refine s_iret dX1_ofMachine_94 rfl rfl ?_
        refine ⟨_, rfl, ?_, hf⟩
        rw [← hE0, ← hE]
        rfl
      · exact absurd c22 (by omega)
    | succ f ih =>
      intro t lf left bd L6 s1 h0 hA hlf hf hbd hl hE hme
      refine r_iload dX1_ofMachine_17 rfl ?_
      refine n_sip 1000 dX1_ofMachine_19 (by decide) ?_
      refine n_cge (tgt := 92) dX1_ofMachine_22 (by decide) (by omega) (by omega) (fun c22 => ?_) (fun c22 => ?_)
      · exact absurd c22 (by omega)
      · refine r_iload_n dX1_ofMachine_25 rfl rfl ?_
        refine n_ifle (tgt := 92) dX1_ofMachine_26 (by decide) (by omega) (fun c26 => ?_) (fun c26 => ?_)
        · refine r_iload dX1_ofMachine_92 rfl ?_
          refine s_iret dX1_ofMachine_94 rfl rfl ?_
          refine ⟨_, rfl, ?_, hf⟩
          rw [← hE0, ← hE, x_bi_0 (by omega)]
        · refine r_aload_n dX1_ofMachine_29 rfl rfl ?_
          refine r_iload dX1_ofMachine_30 rfl ?_
          refine s_V1I mX1_choose dX1_ofMachine_32 okX1_choose lX1_55 npX1_choose lysX1 rfl (by decide) (by decide) (by decide) (Nat.le_of_ble_eq_true rfl) (Nat.le_of_ble_eq_true rfl) (c_cChoose hw hm h0 hA hlf (by omega)) (fun x s1 hq => ?_)
          obtain ⟨rfl, rfl⟩ := hq
          cases hbq : x_bh X m lf t (X 1) with
          | none =>
            show s_W G mX1_ofMachine 3 0 0 _ 35 [some (.ref 202), some (.ref o), some (.int (nI m)), some (.int (nI left)), some (.int (nI bd)), some (.int (nI t)), L6] [.int (-1)] _
            refine r_istore dX1_ofMachine_35 (by decide) rfl ?_
            refine r_iload dX1_ofMachine_37 rfl ?_
            refine r_iconst (v := -1) dX1_ofMachine_39 (by decide) ?_
            refine r_icmp_eq (tgt := 86) dX1_ofMachine_40 (by decide) (fun c40 => ?_) (fun c40 => ?_)
            · refine n_inc dX1_ofMachine_86 rfl (n_i1 _) (by decide) rfl ?_
              refine r_goto (tgt := 17) dX1_ofMachine_89 (by decide) ?_
              refine ih (t + 1) lf left bd _ _ h0 hA hlf hf hbd (by omega) ?_ (by omega)
              rw [← hE]
              exact (x_bi_n (by omega) hbq).symm
            · exact absurd rfl c40
          | some b =>
            show s_W G mX1_ofMachine 3 0 0 _ 35 [some (.ref 202), some (.ref o), some (.int (nI m)), some (.int (nI left)), some (.int (nI bd)), some (.int (nI t)), L6] [.int (nI (x_ct (x_om X m) b))] _
            have hbo := x_bh_ok _ _ hbq
            have hbK : x_om X m b = true := decide_eq_true hbo.2.1
            have hb3 := hA b hbo.1 hbK
            have hbb := x_hd_le (x_wf_y hw) hbo.1
            have hlb := hlf b hbo.1
            have hcb5 : x_ct (x_om X m) b < 5 := by
              have h1 := x_ct_mn (K := x_om X m) (a := b + 1) (X 1) (by omega)
              rw [x_ct_s, if_pos hbK] at h1
              omega
            refine r_istore dX1_ofMachine_35 (by decide) rfl ?_
            refine r_iload dX1_ofMachine_37 rfl ?_
            refine r_iconst (v := -1) dX1_ofMachine_39 (by decide) ?_
            refine r_icmp_eq (tgt := 86) dX1_ofMachine_40 (by decide) (fun c40 => ?_) (fun c40 => ?_)
            · exact absurd c40 (nI_m1 (by omega))
            · refine r_aload_n dX1_ofMachine_43 rfl rfl ?_
              refine s_getR dX1_ofMachine_44 fX1_18 lysX1 rfl ?_
              refine r_iload dX1_ofMachine_47 rfl ?_
              refine r_dup2 dX1_ofMachine_49 rfl rfl ?_
              refine a_ld dX1_ofMachine_50 rfl (by omega) (by decide) hb3.2.2 ?_
              refine n_const 1 dX1_ofMachine_51 (by decide) ?_
              refine n_sub dX1_ofMachine_52 (by omega) ?_
              refine a_st dX1_ofMachine_53 rfl (by omega) (by decide) (fun s2 hs2 hf2 => ?_)
              refine r_aload_n dX1_ofMachine_54 rfl rfl ?_
              refine s_getR dX1_ofMachine_55 fX1_18 lysX1 rfl ?_
              refine r_iload dX1_ofMachine_58 rfl ?_
              refine a_ld dX1_ofMachine_60 rfl (by omega) (by decide) (show s2 205 (x_ct (x_om X m) b) = nI (lf b - 1) by rw [hs2, pk_us]) ?_
              refine n_ifne (tgt := 86) dX1_ofMachine_61 (by decide) (by omega) (fun c61 => ?_) (fun c61 => ?_)
              · refine n_inc dX1_ofMachine_86 rfl (n_i1 _) (by decide) rfl ?_
                refine r_goto (tgt := 17) dX1_ofMachine_89 (by decide) ?_
                have hA2 : c_bd X m (va_up lf b (lf b - 1)) (X 1) s2 := fun k hk hkK => by
                  rw [hf2 203 (by omega), hf2 204 (by omega), hs2]
                  by_cases e : k = b
                  · subst e; rw [pk_us, va_up_s]; exact ⟨hb3.1, hb3.2.1, rfl⟩
                  · rw [pk_un (fun z => e (x_ct_in hkK hbK z)), va_up_n e]; exact hA k hk hkK
                have hlf2 : ∀ k, k < X 1 → va_up lf b (lf b - 1) k ≤ 30 := fun k hk => by
                  by_cases e : k = b
                  · subst e; rw [va_up_s]; have := hlf k hk; omega
                  · rw [va_up_n e]; exact hlf k hk
                have h02 : s2 202 0 = nI (x_ct (x_om X m) (X 1)) := by rw [hf2 202 (by omega)]; exact h0
                have hff := s_fr_tr hf (s_fr_w hf2 (lo' := 202) (hi' := 206) (by omega) (by omega))
                first
                  | (refine ih (t + 1) _ left bd _ s2 h02 hA2 hlf2 hff hbd (by omega) ?_ (by omega)
                     rw [← hE]
                     exact (x_bi_d (by omega) hbq (by omega)).symm)
                  | (refine ih (t + 1) _ (left - 1) _ _ s2 h02 hA2 hlf2 hff (by omega) (by omega) ?_ (by omega)
                     rw [← hE]
                     exact (x_bi_e (by omega) hbq (by omega)).symm)
              · refine n_inc dX1_ofMachine_64 rfl (n_dec (by omega)) (by decide) rfl ?_
                refine r_iload dX1_ofMachine_67 rfl ?_
                refine r_iload dX1_ofMachine_69 rfl ?_
                refine n_const 1 dX1_ofMachine_71 (by decide) ?_
                refine n_add dX1_ofMachine_72 ?_
                refine r_aload_n dX1_ofMachine_73 rfl rfl ?_
                refine s_getR dX1_ofMachine_74 fX1_15 lysX1 rfl ?_
                refine r_iload dX1_ofMachine_77 rfl ?_
                refine a_ld dX1_ofMachine_79 rfl (by omega) (by decide) (show s2 204 (x_ct (x_om X m) b) = nI (x_tl X b) by rw [hf2 204 (by omega)]; exact hb3.2.1) ?_
                refine n_add dX1_ofMachine_80 ?_
                refine r_mmax dX1_ofMachine_81 kwM_X1_max kwM_static_max kwM_ini kwM_code_max (by decide) (Nat.le_of_ble_eq_true rfl) ?_
                rw [nI_max (by omega) (by omega)]
                refine r_istore dX1_ofMachine_84 (by decide) rfl ?_
                refine n_inc dX1_ofMachine_86 rfl (n_i1 _) (by decide) rfl ?_
                refine r_goto (tgt := 17) dX1_ofMachine_89 (by decide) ?_
                have hA2 : c_bd X m (va_up lf b (lf b - 1)) (X 1) s2 := fun k hk hkK => by
                  rw [hf2 203 (by omega), hf2 204 (by omega), hs2]
                  by_cases e : k = b
                  · subst e; rw [pk_us, va_up_s]; exact ⟨hb3.1, hb3.2.1, rfl⟩
                  · rw [pk_un (fun z => e (x_ct_in hkK hbK z)), va_up_n e]; exact hA k hk hkK
                have hlf2 : ∀ k, k < X 1 → va_up lf b (lf b - 1) k ≤ 30 := fun k hk => by
                  by_cases e : k = b
                  · subst e; rw [va_up_s]; have := hlf k hk; omega
                  · rw [va_up_n e]; exact hlf k hk
                have h02 : s2 202 0 = nI (x_ct (x_om X m) (X 1)) := by rw [hf2 202 (by omega)]; exact h0
                have hff := s_fr_tr hf (s_fr_w hf2 (lo' := 202) (hi' := 206) (by omega) (by omega))
                first
                  | (refine ih (t + 1) _ left bd _ s2 h02 hA2 hlf2 hff hbd (by omega) ?_ (by omega)
                     rw [← hE]
                     exact (x_bi_d (by omega) hbq (by omega)).symm)
                  | (refine ih (t + 1) _ (left - 1) _ _ s2 h02 hA2 hlf2 hff (by omega) (by omega) ?_ (by omega)
                     rw [← hE]
                     exact (x_bi_e (by omega) hbq (by omega)).symm)
  refine r_aload_n dX1_ofMachine_0 rfl rfl ?_
  refine r_aload_n dX1_ofMachine_1 rfl rfl ?_
  refine r_iload_n dX1_ofMachine_2 rfl rfl ?_
  refine s_V2V mX1_collect dX1_ofMachine_3 okX1_collect lX1_48 npX1_collect lysX1 rfl (by decide) (by decide) (by decide) (Nat.le_of_ble_eq_true rfl) (Nat.le_of_ble_eq_true rfl) (c_cCollect ho hC hw hm) (fun s1 hq => ?_)
  obtain ⟨q1, q2, q3⟩ := hq
  refine r_aload_n dX1_ofMachine_6 rfl rfl ?_
  refine s_getI dX1_ofMachine_7 fX1_52 lysX1 rfl q1 ?_
  refine r_istore_n dX1_ofMachine_10 rfl (by decide) rfl ?_
  refine n_const 0 dX1_ofMachine_11 (by decide) ?_
  refine r_istore dX1_ofMachine_12 (by decide) rfl ?_
  refine n_const 0 dX1_ofMachine_14 (by decide) ?_
  refine r_istore dX1_ofMachine_15 (by decide) rfl ?_
  exact lp 1000 0 _ _ _ _ _ q1 q2 (fun k hk => (x_op hw hk).2.2.2.2.2.2.2.2.1) q3 (by omega) hcn (by rw [hE0, x_om_n hw hm]; rfl) (by omega)
set_option maxRecDepth 20000 in
set_option maxHeartbeats 1000000 in
theorem c_ofShop {G : q_G} {s : s_T} {X : x_T} {o : Nat} (ho : isX7 o) (hC : c_R X s o) (hw : x_wf X) : s_W G mX1_ofShop 4 0 0 (c_I (fun y9 s1 => y9 = nI (x_jm X (x_mb X 4) (X 0)) ∧ s_fr 202 206 s s1)) 0 (q_ent mX1_ofShop [.ref 202, .ref o]) [] s := by
  show s_W G mX1_ofShop 4 0 0 _ 0 [some (.ref 202), some (.ref o), none, none] [] s
  have hs := x_sz hw
  have ho2 := o7_le ho
  have l2 : ∀ f j s1, s_fr 202 206 s s1 → j ≤ X 0 → X 0 < j + f → s_W G mX1_ofShop 4 0 0 (c_I (fun y9 s1 => y9 = nI (x_jm X (x_mb X 4) (X 0)) ∧ s_fr 202 206 s s1)) 28 [some (.ref 202), some (.ref o), some (.int (nI (x_jm X (x_mb X 4) j))), some (.int (nI j))] [] s1 := by
    intro f
    induction f with
    | zero =>
      intro j s1 hf hj hme
      exact absurd hme (by omega)
    | succ f ih =>
      intro j s1 hf hj hme
      have hC1 := c_R_fr hC hf (Or.inl (by omega)) hs.1
      have hjl := x_jm_le (x_wf_y hw) (x_mb_le (x_wf_y hw) 4) j hj
      refine r_iload_n dX1_ofShop_28 rfl rfl ?_
      refine r_aload_n dX1_ofShop_29 rfl rfl ?_
      refine s_getI dX1_ofShop_30 fX1_31 (layX7 ho) rfl (cl_jobs hC1) ?_
      refine n_cge (tgt := 77) dX1_ofShop_33 (by decide) (by omega) (by omega) (fun c33 => ?_) (fun c33 => ?_)
      · refine r_iload_n dX1_ofShop_77 rfl rfl ?_
        refine s_iret dX1_ofShop_78 rfl rfl ?_
        have e9 : j = X 0 := by omega
        subst e9
        exact ⟨_, rfl, rfl, hf⟩
      · have hjb := x_jb hw c33
        have hwk := x_wk_le (x_wf_y hw) c33 (a := 0) (n := X (17 + j)) (by omega)
        refine r_aload_n dX1_ofShop_36 rfl rfl ?_
        refine s_getR dX1_ofShop_37 fX1_37 (layX7 ho) rfl ?_
        refine r_iload_n dX1_ofShop_40 rfl rfl ?_
        refine a_ld dX1_ofShop_41 (X7_stepCounts ho) (by omega) (by decide) (cl_len hC1 (by omega)) ?_
        refine n_ifle (tgt := 71) dX1_ofShop_42 (by decide) (by omega) (fun c42 => ?_) (fun c42 => ?_)
        · refine n_inc dX1_ofShop_71 rfl (n_i1 _) (by decide) rfl ?_
          refine r_goto (tgt := 28) dX1_ofShop_74 (by decide) ?_
          first
            | (have q9 := ih (j + 1) _ hf (by omega) (by omega)
               rw [show x_jm X (x_mb X 4) (j + 1) = max (x_jm X (x_mb X 4) j) (X (2 + j) + x_wk X j 0 (X (17 + j))) by show (if _ then _ else _) = _; rw [if_neg (by omega)]] at q9
               exact q9)
            | (have q9 := ih (j + 1) _ hf (by omega) (by omega)
               rw [show x_jm X (x_mb X 4) (j + 1) = x_jm X (x_mb X 4) j by show (if _ then _ else _) = _; rw [if_pos (by omega)]] at q9
               exact q9)
        · refine r_iload_n dX1_ofShop_45 rfl rfl ?_
          refine r_aload_n dX1_ofShop_46 rfl rfl ?_
          refine s_getR dX1_ofShop_47 fX1_40 (layX7 ho) rfl ?_
          refine r_iload_n dX1_ofShop_50 rfl rfl ?_
          refine a_ald dX1_ofShop_51 (X7_jobData ho) (by omega) (by decide) ?_
          refine n_const 0 dX1_ofShop_52 (by decide) ?_
          refine a_ld dX1_ofShop_53 (X7_jobData_row ho (by omega)) (by omega) (by decide) (cl_rel hC1 (by omega)) ?_
          refine r_aload_n dX1_ofShop_54 rfl rfl ?_
          refine r_iload_n dX1_ofShop_55 rfl rfl ?_
          refine n_const 0 dX1_ofShop_56 (by decide) ?_
          refine r_aload_n dX1_ofShop_57 rfl rfl ?_
          refine s_getR dX1_ofShop_58 fX1_37 (layX7 ho) rfl ?_
          refine r_iload_n dX1_ofShop_61 rfl rfl ?_
          refine a_ld dX1_ofShop_62 (X7_stepCounts ho) (by omega) (by decide) (cl_len hC1 (by omega)) ?_
          refine s_S4I mX1_work dX1_ofShop_63 okX1_work lX1_44 npX1_work (by decide) (by decide) (by decide) (Nat.le_of_ble_eq_true rfl) (Nat.le_of_ble_eq_true rfl) (d_work ho hC1 (x_wf_y hw) c33 (Or.inl (by omega)) (by omega) (by omega)) (fun x s1 hq => ?_)
          obtain ⟨rfl, rfl⟩ := hq
          rw [show X (17 + j) - 0 = X (17 + j) from Nat.sub_zero _]
          refine n_add dX1_ofShop_66 ?_
          refine r_mmax dX1_ofShop_67 kwM_X1_max kwM_static_max kwM_ini kwM_code_max (by decide) (Nat.le_of_ble_eq_true rfl) ?_
          rw [nI_max (by omega) (by omega)]
          refine r_istore_n dX1_ofShop_70 rfl (by decide) rfl ?_
          refine n_inc dX1_ofShop_71 rfl (n_i1 _) (by decide) rfl ?_
          refine r_goto (tgt := 28) dX1_ofShop_74 (by decide) ?_
          first
            | (have q9 := ih (j + 1) _ hf (by omega) (by omega)
               rw [show x_jm X (x_mb X 4) (j + 1) = max (x_jm X (x_mb X 4) j) (X (2 + j) + x_wk X j 0 (X (17 + j))) by show (if _ then _ else _) = _; rw [if_neg (by omega)]] at q9
               exact q9)
            | (have q9 := ih (j + 1) _ hf (by omega) (by omega)
               rw [show x_jm X (x_mb X 4) (j + 1) = x_jm X (x_mb X 4) j by show (if _ then _ else _) = _; rw [if_pos (by omega)]] at q9
               exact q9)
  have l1 : ∀ f m s1, s_fr 202 206 s s1 → m ≤ 4 → 4 < m + f → s_W G mX1_ofShop 4 0 0 (c_I (fun y9 s1 => y9 = nI (x_jm X (x_mb X 4) (X 0)) ∧ s_fr 202 206 s s1)) 4 [some (.ref 202), some (.ref o), some (.int (nI (x_mb X m))), some (.int (nI m))] [] s1 := by
    intro f
    induction f with
    | zero =>
      intro m s1 hf hm hme
      exact absurd hme (by omega)
    | succ f ih =>
      intro m s1 hf hm hme
      have hC1 := c_R_fr hC hf (Or.inl (by omega)) hs.1
      have hml := x_mb_le (x_wf_y hw) m
      refine r_iload_n dX1_ofShop_4 rfl rfl ?_
      refine n_const 4 dX1_ofShop_5 (by decide) ?_
      refine n_cge (tgt := 26) dX1_ofShop_6 (by decide) (by omega) (by omega) (fun c6 => ?_) (fun c6 => ?_)
      · refine n_const 0 dX1_ofShop_26 (by decide) ?_
        refine r_istore_n dX1_ofShop_27 rfl (by decide) rfl ?_
        have e9 : m = 4 := by omega
        subst e9
        exact l2 (X 0 + 1) 0 s1 hf (by omega) (by omega)
      · refine r_iload_n dX1_ofShop_9 rfl rfl ?_
        refine r_aload_n dX1_ofShop_10 rfl rfl ?_
        refine r_aload_n dX1_ofShop_11 rfl rfl ?_
        refine r_iload_n dX1_ofShop_12 rfl rfl ?_
        refine s_V2I mX1_ofMachine dX1_ofShop_13 okX1_ofMachine lX1_21 npX1_ofMachine lysX1 rfl (by decide) (by decide) (by decide) (Nat.le_of_ble_eq_true rfl) (Nat.le_of_ble_eq_true rfl) (c_ofMachine ho hC1 hw c6) (fun x s1 hq => ?_)
        obtain ⟨rfl, hf2⟩ := hq
        have hdl := x_bd_le (x_wf_y hw) (m := m)
        refine r_mmax dX1_ofShop_16 kwM_X1_max kwM_static_max kwM_ini kwM_code_max (by decide) (Nat.le_of_ble_eq_true rfl) ?_
        rw [nI_max (by omega) (by omega)]
        refine r_istore_n dX1_ofShop_19 rfl (by decide) rfl ?_
        refine n_inc dX1_ofShop_20 rfl (n_i1 _) (by decide) rfl ?_
        refine r_goto (tgt := 4) dX1_ofShop_23 (by decide) ?_
        exact ih (m + 1) _ (s_fr_tr hf hf2) (by omega) (by omega)
  refine n_const 0 dX1_ofShop_0 (by decide) ?_
  refine r_istore_n dX1_ofShop_1 rfl (by decide) rfl ?_
  refine n_const 0 dX1_ofShop_2 (by decide) ?_
  refine r_istore_n dX1_ofShop_3 rfl (by decide) rfl ?_
  exact l1 5 0 s s_fr_rf (by omega) (by omega)
set_option maxRecDepth 20000 in
set_option maxHeartbeats 1000000 in
theorem c_bound {G : q_G} {s : s_T} {z : z_T} (hz : z_wf z) (hZ : c_Z z s) {m : Int32} : s_W G mX11_bound 8 2 12 (c_P [q_IO] (A_bound z m) s) 0 (q_ent mX11_bound [.ref 0, .int m]) [] s := by
  show s_W G mX11_bound 8 2 12 _ 0 [some (.ref 0), some (.int m)] [] s
  have hw := hz.1.1
  have hs := x_sz hw
  have hC := hZ.1
  have hf : s_fr 0 212 s s := s_fr_rf
  have ho : isX7 1 := Or.inl rfl
  refine r_iload_n dX11_bound_0 rfl rfl ?_
  refine s_S1X mX11_requireMachine dX11_bound_1 okX11_requireMachine lX11_116 npX11_requireMachine (by decide) (by decide) (by decide) (Nat.le_of_ble_eq_true rfl) (Nat.le_of_ble_eq_true rfl) c_requireMachine (fun v s1 hq => ?_) (fun E s1 hq => by obtain ⟨rfl, c9, rfl⟩ := c_rq_f hq; exact x_out rfl (s_end (c_P_e 1 (by unfold A_bound; simp [*]) (by decide) rfl hZ hf)))
  obtain ⟨rfl, c1, rfl⟩ := c_rq_t hq
  obtain ⟨m, rfl, hm, hm2⟩ := iLt_n c1
  have em := iN_n hm2
  refine r_aload_n dX11_bound_4 rfl rfl ?_
  refine s_getR dX11_bound_5 fX11_70 lysX11 rfl ?_
  refine r_aload_n dX11_bound_8 rfl rfl ?_
  refine s_getR dX11_bound_9 fX11_10 lysX11 rfl ?_
  refine r_iload_n dX11_bound_12 rfl rfl ?_
  refine s_V2I mX1_ofMachine dX11_bound_13 okX1_ofMachine lX11_342 npX1_ofMachine lysX1 rfl (by decide) (by decide) (by decide) (Nat.le_of_ble_eq_true rfl) (Nat.le_of_ble_eq_true rfl) (c_ofMachine ho hC hw hm) (fun x s1 hq => ?_)
  obtain ⟨rfl, hf2⟩ := hq
  replace hC := c_R_fr hC hf2 (Or.inl (by omega)) hs.1
  replace hZ := c_Z_e0 hZ hz hC (c_eq_fr hf2 (by omega))
  replace hf := s_fr_tr hf (s_fr_w hf2 (by omega) (by omega))
  refine s_iret dX11_bound_16 rfl rfl ?_
  first
    | exact c_P_s (by unfold A_bound; simp [*]) hZ hf
    | exact c_P_n (by unfold A_bound; simp [*]) hZ hf
set_option maxRecDepth 20000 in
set_option maxHeartbeats 1000000 in
theorem c_lowerBound {G : q_G} {s : s_T} {z : z_T} (hz : z_wf z) (hZ : c_Z z s) : s_W G mX11_lowerBound 6 0 0 (c_P [] (A_lowerBound z) s) 0 (q_ent mX11_lowerBound [.ref 0]) [] s := by
  show s_W G mX11_lowerBound 6 0 0 _ 0 [some (.ref 0)] [] s
  have hw := hz.1.1
  have hs := x_sz hw
  have hC := hZ.1
  have hf : s_fr 0 212 s s := s_fr_rf
  have ho : isX7 1 := Or.inl rfl
  refine r_aload_n dX11_lowerBound_0 rfl rfl ?_
  refine s_getR dX11_lowerBound_1 fX11_70 lysX11 rfl ?_
  refine r_aload_n dX11_lowerBound_4 rfl rfl ?_
  refine s_getR dX11_lowerBound_5 fX11_10 lysX11 rfl ?_
  refine s_V1I mX1_ofShop dX11_lowerBound_8 okX1_ofShop lX11_345 npX1_ofShop lysX1 rfl (by decide) (by decide) (by decide) (Nat.le_of_ble_eq_true rfl) (Nat.le_of_ble_eq_true rfl) (c_ofShop ho hC hw) (fun x s1 hq => ?_)
  obtain ⟨rfl, hf2⟩ := hq
  replace hC := c_R_fr hC hf2 (Or.inl (by omega)) hs.1
  replace hZ := c_Z_e0 hZ hz hC (c_eq_fr hf2 (by omega))
  replace hf := s_fr_tr hf (s_fr_w hf2 (by omega) (by omega))
  refine s_iret dX11_lowerBound_11 rfl rfl ?_
  exact c_P_s rfl hZ hf
