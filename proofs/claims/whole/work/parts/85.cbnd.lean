/-! ===== the class's Bounds ===== -/
/-- its rows hold heads, tails, rests of the operations of machine m before n -/
def c_bd (X : x_T) (m : Nat) (lf : Nat → Nat) (n : Nat) (s : s_T) : Prop := ∀ k, k < n → x_om X m k = true → s 203 (x_ct (x_om X m) k) = nI (x_hd X k) ∧ s 204 (x_ct (x_om X m) k) = nI (x_tl X k) ∧ s 205 (x_ct (x_om X m) k) = nI (lf k)
set_option maxRecDepth 20000 in
set_option maxHeartbeats 1000000 in
theorem c_cCollect {G : q_G} {s : s_T} {X : x_T} {o m : Nat} (ho : isX7 o) (hC : c_R X s o) (hw : x_wf X) (hm : m < 4) : s_W G mX1_collect 2 0 0 (c_V (fun s1 => s1 202 0 = nI (x_ct (x_om X m) (X 1)) ∧ c_bd X m (fun k => X (82 + k)) (X 1) s1 ∧ s_fr 202 206 s s1)) 0 (q_ent mX1_collect [.ref 202, .ref o, .int (nI m)]) [] s := by
  show s_W G mX1_collect 2 0 0 _ 0 [some (.ref 202), some (.ref o), some (.int (nI m)), none, none, none] [] s
  have hs := x_sz hw
  have ho2 := o7_le ho
  have lp : ∀ f k (L4 : Option Value) (L5 : Option Value) s1, s1 202 0 = nI (x_ct (x_om X m) k) → c_bd X m (fun k => X (82 + k)) k s1 → s_fr 202 206 s s1 → k ≤ X 1 → X 1 < k + f → s_W G mX1_collect 2 0 0 (c_V (fun s1 => s1 202 0 = nI (x_ct (x_om X m) (X 1)) ∧ c_bd X m (fun k => X (82 + k)) (X 1) s1 ∧ s_fr 202 206 s s1)) 7 [some (.ref 202), some (.ref o), some (.int (nI m)), some (.int (nI k)), L4, L5] [] s1 := by
    intro f
    induction f with
    | zero =>
      intro k L4 L5 s1 h0 hA hf hk hme
      exact absurd hme (by omega)
    | succ f ih =>
      intro k L4 L5 s1 h0 hA hf hk hme
      have hC1 := c_R_fr hC hf (Or.inl (by omega)) hs.1
      refine r_iload_n dX1_collect_7 rfl rfl ?_
      refine r_aload_n dX1_collect_8 rfl rfl ?_
      refine s_getI dX1_collect_9 fX1_59 (layX7 ho) rfl (cl_ops hC1) ?_
      refine n_cge (tgt := 134) dX1_collect_12 (by decide) (by omega) (by omega) (fun c12 => ?_) (fun c12 => ?_)
      · refine s_vret dX1_collect_134 rfl ?_
        have e9 : k = X 1 := by omega
        subst e9
        exact ⟨rfl, h0, hA, hf⟩
      · have hop := x_op hw c12
        have hjb := x_jb hw hop.2.2.1
        refine r_aload_n dX1_collect_15 rfl rfl ?_
        refine s_getR dX1_collect_16 fX1_62 (layX7 ho) rfl ?_
        refine r_iload_n dX1_collect_19 rfl rfl ?_
        refine a_ld dX1_collect_20 (X7_machineOf ho) (by omega) (by decide) (cl_mc hC1 (by omega)) ?_
        refine r_iload_n dX1_collect_21 rfl rfl ?_
        refine n_cne (tgt := 128) dX1_collect_22 (by decide) (by omega) (by omega) (fun c22 => ?_) (fun c22 => ?_)
        · refine n_inc dX1_collect_128 rfl (n_i1 _) (by decide) rfl ?_
          refine r_goto (tgt := 7) dX1_collect_131 (by decide) ?_
          first
            | (have hK : x_om X m k = true := decide_eq_true c22
               have e2 : x_ct (x_om X m) (k + 1) = x_ct (x_om X m) k + 1 := by rw [x_ct_s, if_pos hK]
               refine ih (k + 1) _ _ s5 ?_ (fun q hq hqK => ?_) (s_fr_tr hf (fun q hq => by rw [hf5 q (by omega), hf4 q (by omega), hf3 q (by omega), hf2 q (by omega)])) (by omega) (by omega)
               · rw [hs5, pk_us, e2]
               · rw [hf5 203 (by omega), hf5 204 (by omega), hf5 205 (by omega), hf4 203 (by omega), hf4 204 (by omega), hs4, hf3 203 (by omega), hs3, hs2]
                 by_cases e : q = k
                 · subst e
                   rw [pk_us, pk_us, pk_us]
                   exact ⟨rfl, rfl, rfl⟩
                 · have hne : x_ct (x_om X m) q ≠ x_ct (x_om X m) k := fun z => e (x_ct_in hqK hK z)
                   rw [pk_un hne, pk_un hne, pk_un hne, hf3 205 (by omega), hf2 204 (by omega), hf2 205 (by omega)]
                   exact hA q (by omega) hqK)
            | (have hK : x_om X m k = false := decide_eq_false c22
               have e2 : x_ct (x_om X m) (k + 1) = x_ct (x_om X m) k := by rw [x_ct_s, if_neg (by rw [hK]; decide), Nat.add_zero]
               refine ih (k + 1) _ _ s1 (by rw [e2]; exact h0) (fun q hq hqK => ?_) hf (by omega) (by omega)
               by_cases e : q = k
               · subst e; rw [hK] at hqK; cases hqK
               · exact hA q (by omega) hqK)
        · have hct : x_ct (x_om X m) k < 5 := by
            have h1 := x_ct_mn (K := x_om X m) (a := k + 1) (X 1) (by omega)
            rw [x_ct_s, if_pos (show x_om X m k = true from decide_eq_true c22), x_om_n hw hm] at h1
            have := x_mn hw hm
            omega
          refine r_aload_n dX1_collect_25 rfl rfl ?_
          refine s_getI dX1_collect_26 fX1_52 lysX1 rfl h0 ?_
          refine n_const 5 dX1_collect_29 (by decide) ?_
          refine n_cge (tgt := 128) dX1_collect_30 (by decide) (by omega) (by omega) (fun c30 => ?_) (fun c30 => ?_)
          · exact absurd c30 (by omega)
          · refine r_aload_n dX1_collect_33 rfl rfl ?_
            refine s_getR dX1_collect_34 fX1_65 (layX7 ho) rfl ?_
            refine r_iload_n dX1_collect_37 rfl rfl ?_
            refine a_ld dX1_collect_38 (X7_jobOf ho) (by omega) (by decide) (cl_job hC1 (by omega)) ?_
            refine r_istore dX1_collect_39 (by decide) rfl ?_
            refine r_aload_n dX1_collect_41 rfl rfl ?_
            refine s_getR dX1_collect_42 fX1_68 (layX7 ho) rfl ?_
            refine r_iload_n dX1_collect_45 rfl rfl ?_
            refine a_ld dX1_collect_46 (X7_stepOf ho) (by omega) (by decide) (cl_st hC1 (by omega)) ?_
            refine r_istore dX1_collect_47 (by decide) rfl ?_
            refine r_aload_n dX1_collect_49 rfl rfl ?_
            refine s_getR dX1_collect_50 fX1_9 lysX1 rfl ?_
            refine r_aload_n dX1_collect_53 rfl rfl ?_
            refine s_getI dX1_collect_54 fX1_52 lysX1 rfl h0 ?_
            refine r_aload_n dX1_collect_57 rfl rfl ?_
            refine s_getR dX1_collect_58 fX1_40 (layX7 ho) rfl ?_
            refine r_iload dX1_collect_61 rfl ?_
            refine a_ald dX1_collect_63 (X7_jobData ho) (by omega) (by decide) ?_
            refine n_const 0 dX1_collect_64 (by decide) ?_
            refine a_ld dX1_collect_65 (X7_jobData_row ho (by omega)) (by omega) (by decide) (cl_rel hC1 (by omega)) ?_
            refine r_aload_n dX1_collect_66 rfl rfl ?_
            refine r_iload dX1_collect_67 rfl ?_
            refine n_const 0 dX1_collect_69 (by decide) ?_
            refine r_iload dX1_collect_70 rfl ?_
            refine s_S4I mX1_work dX1_collect_72 okX1_work lX1_44 npX1_work (by decide) (by decide) (by decide) (Nat.le_of_ble_eq_true rfl) (Nat.le_of_ble_eq_true rfl) (d_work ho hC1 (x_wf_y hw) hop.2.2.1 (Or.inl (by omega)) (by omega) (by omega)) (fun x s1 hq => ?_)
            obtain ⟨rfl, rfl⟩ := hq
            refine n_add dX1_collect_75 ?_
            refine a_st dX1_collect_76 rfl (by omega) (by decide) (fun s2 hs2 hf2 => ?_)
            have hC2 := c_R_fr hC1 hf2 (Or.inl (by omega)) hs.1
            refine r_aload_n dX1_collect_77 rfl rfl ?_
            refine s_getR dX1_collect_78 fX1_15 lysX1 rfl ?_
            refine r_aload_n dX1_collect_81 rfl rfl ?_
            refine s_getI dX1_collect_82 fX1_52 lysX1 rfl (show s2 202 0 = nI (x_ct (x_om X m) k) by rw [hf2 202 (by omega)]; exact h0) ?_
            refine r_aload_n dX1_collect_85 rfl rfl ?_
            refine r_iload dX1_collect_86 rfl ?_
            refine r_iload dX1_collect_88 rfl ?_
            refine n_const 1 dX1_collect_90 (by decide) ?_
            refine n_add dX1_collect_91 ?_
            refine r_aload_n dX1_collect_92 rfl rfl ?_
            refine s_getR dX1_collect_93 fX1_37 (layX7 ho) rfl ?_
            refine r_iload dX1_collect_96 rfl ?_
            refine a_ld dX1_collect_98 (X7_stepCounts ho) (by omega) (by decide) (cl_len hC2 (by omega)) ?_
            refine s_S4I mX1_work dX1_collect_99 okX1_work lX1_44 npX1_work (by decide) (by decide) (by decide) (Nat.le_of_ble_eq_true rfl) (Nat.le_of_ble_eq_true rfl) (d_work ho hC2 (x_wf_y hw) hop.2.2.1 (by omega) (by omega) (by omega)) (fun x s1 hq => ?_)
            obtain ⟨rfl, rfl⟩ := hq
            refine a_st dX1_collect_102 rfl (by omega) (by decide) (fun s3 hs3 hf3 => ?_)
            have hC3 := c_R_fr hC2 hf3 (Or.inl (by omega)) hs.1
            refine r_aload_n dX1_collect_103 rfl rfl ?_
            refine s_getR dX1_collect_104 fX1_18 lysX1 rfl ?_
            refine r_aload_n dX1_collect_107 rfl rfl ?_
            refine s_getI dX1_collect_108 fX1_52 lysX1 rfl (show s3 202 0 = nI (x_ct (x_om X m) k) by rw [hf3 202 (by omega), hf2 202 (by omega)]; exact h0) ?_
            refine r_aload_n dX1_collect_111 rfl rfl ?_
            refine s_getR dX1_collect_112 fX1_71 (layX7 ho) rfl ?_
            refine r_iload_n dX1_collect_115 rfl rfl ?_
            refine a_ld dX1_collect_116 (X7_durations ho) (by omega) (by decide) (cl_du hC3 (by omega)) ?_
            refine a_st dX1_collect_117 rfl (by omega) (by decide) (fun s4 hs4 hf4 => ?_)
            refine r_aload_n dX1_collect_118 rfl rfl ?_
            refine r_dup dX1_collect_119 rfl ?_
            refine s_getI dX1_collect_120 fX1_52 lysX1 rfl (show s4 202 0 = nI (x_ct (x_om X m) k) by rw [hf4 202 (by omega), hf3 202 (by omega), hf2 202 (by omega)]; exact h0) ?_
            refine n_const 1 dX1_collect_123 (by decide) ?_
            refine n_add dX1_collect_124 ?_
            refine a_put dX1_collect_125 gX1_52 lysX1 rfl rfl rfl (fun s5 hs5 hf5 => ?_)
            refine n_inc dX1_collect_128 rfl (n_i1 _) (by decide) rfl ?_
            refine r_goto (tgt := 7) dX1_collect_131 (by decide) ?_
            first
              | (have hK : x_om X m k = true := decide_eq_true c22
                 have e2 : x_ct (x_om X m) (k + 1) = x_ct (x_om X m) k + 1 := by rw [x_ct_s, if_pos hK]
                 refine ih (k + 1) _ _ s5 ?_ (fun q hq hqK => ?_) (s_fr_tr hf (fun q hq => by rw [hf5 q (by omega), hf4 q (by omega), hf3 q (by omega), hf2 q (by omega)])) (by omega) (by omega)
                 · rw [hs5, pk_us, e2]
                 · rw [hf5 203 (by omega), hf5 204 (by omega), hf5 205 (by omega), hf4 203 (by omega), hf4 204 (by omega), hs4, hf3 203 (by omega), hs3, hs2]
                   by_cases e : q = k
                   · subst e
                     rw [pk_us, pk_us, pk_us]
                     exact ⟨rfl, rfl, rfl⟩
                   · have hne : x_ct (x_om X m) q ≠ x_ct (x_om X m) k := fun z => e (x_ct_in hqK hK z)
                     rw [pk_un hne, pk_un hne, pk_un hne, hf3 205 (by omega), hf2 204 (by omega), hf2 205 (by omega)]
                     exact hA q (by omega) hqK)
              | (have hK : x_om X m k = false := decide_eq_false c22
                 have e2 : x_ct (x_om X m) (k + 1) = x_ct (x_om X m) k := by rw [x_ct_s, if_neg (by rw [hK]; decide), Nat.add_zero]
                 refine ih (k + 1) _ _ s1 (by rw [e2]; exact h0) (fun q hq hqK => ?_) hf (by omega) (by omega)
                 by_cases e : q = k
                 · subst e; rw [hK] at hqK; cases hqK
                 · exact hA q (by omega) hqK)
  refine r_aload_n dX1_collect_0 rfl rfl ?_
  refine n_const 0 dX1_collect_1 (by decide) ?_
  refine a_put dX1_collect_2 gX1_52 lysX1 rfl rfl rfl (fun s2 hs2 hf2 => ?_)
  refine n_const 0 dX1_collect_5 (by decide) ?_
  refine r_istore_n dX1_collect_6 rfl (by decide) rfl ?_
  exact lp (X 1 + 1) 0 _ _ s2 (by rw [hs2, pk_us]; rfl) (fun q hq => absurd hq (by omega)) (s_fr_w hf2 (by omega) (by omega)) (by omega) (by omega)
set_option maxRecDepth 20000 in
set_option maxHeartbeats 1000000 in
theorem c_cChoose {G : q_G} {s : s_T} {X : x_T} {m t : Nat} {lf : Nat → Nat} (hw : x_wf X) (hm : m < 4) (h0 : s 202 0 = nI (x_ct (x_om X m) (X 1))) (hA : c_bd X m lf (X 1) s) (hlf : ∀ k, k < X 1 → lf k ≤ 30) (ht : t ≤ 2000) : s_W G mX1_choose 1 0 0 (c_I (fun y9 s1 => s1 = s ∧ y9 = oI ((x_bh X m lf t (X 1)).map (x_ct (x_om X m))))) 0 (q_ent mX1_choose [.ref 202, .int (nI t)]) [] s := by
  show s_W G mX1_choose 1 0 0 _ 0 [some (.ref 202), some (.int (nI t)), none, none, none] [] s
  have hs := x_sz hw
  have hcn : x_ct (x_om X m) (X 1) ≤ 5 := by rw [x_om_n hw hm]; exact (x_mn hw hm).2
  have lp : ∀ f i n (L4 : Option Value), x_ct (x_om X m) n = i → n ≤ X 1 → i ≤ x_ct (x_om X m) (X 1) → x_ct (x_om X m) (X 1) < i + f → s_W G mX1_choose 1 0 0 (c_I (fun y9 s1 => s1 = s ∧ y9 = oI ((x_bh X m lf t (X 1)).map (x_ct (x_om X m))))) 4 [some (.ref 202), some (.int (nI t)), some (.int (oI ((x_bh X m lf t n).map (x_ct (x_om X m))))), some (.int (nI i)), L4] [] s := by
    intro f
    induction f with
    | zero =>
      intro i n L4 hn hn2 hi hme
      exact absurd hme (by omega)
    | succ f ih =>
      intro i n L4 hn hn2 hi hme
      cases hbq : x_bh X m lf t n with
      | none =>
        show s_W G mX1_choose 1 0 0 _ 4 [some (.ref 202), some (.int (nI t)), some (.int (-1)), some (.int (nI i)), L4] [] s
        refine r_iload_n dX1_choose_4 rfl rfl ?_
        refine r_aload_n dX1_choose_5 rfl rfl ?_
        refine s_getI dX1_choose_6 fX1_52 lysX1 rfl h0 ?_
        refine n_cge (tgt := 71) dX1_choose_9 (by decide) (by omega) (by omega) (fun c9 => ?_) (fun c9 => ?_)
        · refine r_iload_n dX1_choose_71 rfl rfl ?_
          refine s_iret dX1_choose_72 rfl rfl ?_
          have e9 : x_bh X m lf t (X 1) = x_bh X m lf t n := (x_bh_eq (X 1) hn2 (by rw [hn]; have := x_ct_mn (K := x_om X m) (a := n) (X 1) hn2; omega)).symm
          rw [e9, hbq]
          exact ⟨_, rfl, rfl, rfl⟩
        · obtain ⟨k, hk1, hk2, hk4⟩ := x_kth (X 1) i (by omega)
          have hkm : X (62 + k) = m := of_decide_eq_true hk2
          have hk3 := hA k hk1 hk2
          rw [hk4] at hk3
          have hkb := x_hd_le (x_wf_y hw) hk1
          have hlk := hlf k hk1
          have hnk : n ≤ k := by
            by_cases e : n ≤ k
            · exact e
            · have := x_ct_mn (K := x_om X m) (a := k + 1) n (by omega)
              rw [x_ct_s, if_pos hk2] at this
              omega
          rw [x_bh_eq k hnk (by rw [hn, hk4])] at hbq
          refine r_aload_n dX1_choose_12 rfl rfl ?_
          refine s_getR dX1_choose_13 fX1_9 lysX1 rfl ?_
          refine r_iload_n dX1_choose_16 rfl rfl ?_
          refine a_ld dX1_choose_17 rfl (by omega) (by decide) hk3.1 ?_
          refine r_iload_n dX1_choose_18 rfl rfl ?_
          refine n_cgt (tgt := 35) dX1_choose_19 (by decide) (by omega) (by omega) (fun c19 => ?_) (fun c19 => ?_)
          · refine n_const 0 dX1_choose_35 (by decide) ?_
            refine r_istore dX1_choose_36 (by decide) rfl ?_
            refine r_iload dX1_choose_38 rfl ?_
            refine n_ifeq (tgt := 65) dX1_choose_40 (by decide) (by omega) (fun c40 => ?_) (fun c40 => ?_)
            · refine n_inc dX1_choose_65 rfl (n_i1 _) (by decide) rfl ?_
              refine r_goto (tgt := 4) dX1_choose_68 (by decide) ?_
              have q9 := fun L4 => ih (i + 1) (k + 1) L4 (by rw [x_ct_s, if_pos hk2, hk4]) (by omega) (by omega) (by omega)
              first
                | (rw [x_bh_n ⟨hkm, by omega, by omega⟩ hbq] at q9; rw [show (some k).map (x_ct (x_om X m)) = some i from congrArg some hk4] at q9; exact q9 _)
                | (rw [x_bh_no (fun z => by have z2 := z.2; omega), hbq] at q9; exact q9 _)
            · exact absurd c40 (by decide)
          · refine r_aload_n dX1_choose_22 rfl rfl ?_
            refine s_getR dX1_choose_23 fX1_18 lysX1 rfl ?_
            refine r_iload_n dX1_choose_26 rfl rfl ?_
            refine a_ld dX1_choose_27 rfl (by omega) (by decide) hk3.2.2 ?_
            refine n_ifle (tgt := 35) dX1_choose_28 (by decide) (by omega) (fun c28 => ?_) (fun c28 => ?_)
            · refine n_const 0 dX1_choose_35 (by decide) ?_
              refine r_istore dX1_choose_36 (by decide) rfl ?_
              refine r_iload dX1_choose_38 rfl ?_
              refine n_ifeq (tgt := 65) dX1_choose_40 (by decide) (by omega) (fun c40 => ?_) (fun c40 => ?_)
              · refine n_inc dX1_choose_65 rfl (n_i1 _) (by decide) rfl ?_
                refine r_goto (tgt := 4) dX1_choose_68 (by decide) ?_
                have q9 := fun L4 => ih (i + 1) (k + 1) L4 (by rw [x_ct_s, if_pos hk2, hk4]) (by omega) (by omega) (by omega)
                first
                  | (rw [x_bh_n ⟨hkm, by omega, by omega⟩ hbq] at q9; rw [show (some k).map (x_ct (x_om X m)) = some i from congrArg some hk4] at q9; exact q9 _)
                  | (rw [x_bh_no (fun z => by have z2 := z.2; omega), hbq] at q9; exact q9 _)
              · exact absurd c40 (by decide)
            · refine n_const 1 dX1_choose_31 (by decide) ?_
              refine r_goto (tgt := 36) dX1_choose_32 (by decide) ?_
              refine r_istore dX1_choose_36 (by decide) rfl ?_
              refine r_iload dX1_choose_38 rfl ?_
              refine n_ifeq (tgt := 65) dX1_choose_40 (by decide) (by omega) (fun c40 => ?_) (fun c40 => ?_)
              · exact absurd c40 (by decide)
              · refine r_iload_n dX1_choose_43 rfl rfl ?_
                refine r_iconst (v := -1) dX1_choose_44 (by decide) ?_
                refine r_icmp_eq (tgt := 63) dX1_choose_45 (by decide) (fun c45 => ?_) (fun c45 => ?_)
                · refine r_iload_n dX1_choose_63 rfl rfl ?_
                  refine r_istore_n dX1_choose_64 rfl (by decide) rfl ?_
                  refine n_inc dX1_choose_65 rfl (n_i1 _) (by decide) rfl ?_
                  refine r_goto (tgt := 4) dX1_choose_68 (by decide) ?_
                  have q9 := fun L4 => ih (i + 1) (k + 1) L4 (by rw [x_ct_s, if_pos hk2, hk4]) (by omega) (by omega) (by omega)
                  first
                    | (rw [x_bh_n ⟨hkm, by omega, by omega⟩ hbq] at q9; rw [show (some k).map (x_ct (x_om X m)) = some i from congrArg some hk4] at q9; exact q9 _)
                    | (rw [x_bh_no (fun z => by have z2 := z.2; omega), hbq] at q9; exact q9 _)
                · exact absurd rfl c45
      | some b =>
        have hcb : x_ct (x_om X m) b < 6 := by
          have hbo := x_bh_ok _ _ hbq
          have h1 := x_ct_mn (K := x_om X m) (a := b) (X 1) (by omega)
          omega
        show s_W G mX1_choose 1 0 0 _ 4 [some (.ref 202), some (.int (nI t)), some (.int (nI (x_ct (x_om X m) b))), some (.int (nI i)), L4] [] s
        refine r_iload_n dX1_choose_4 rfl rfl ?_
        refine r_aload_n dX1_choose_5 rfl rfl ?_
        refine s_getI dX1_choose_6 fX1_52 lysX1 rfl h0 ?_
        refine n_cge (tgt := 71) dX1_choose_9 (by decide) (by omega) (by omega) (fun c9 => ?_) (fun c9 => ?_)
        · refine r_iload_n dX1_choose_71 rfl rfl ?_
          refine s_iret dX1_choose_72 rfl rfl ?_
          have e9 : x_bh X m lf t (X 1) = x_bh X m lf t n := (x_bh_eq (X 1) hn2 (by rw [hn]; have := x_ct_mn (K := x_om X m) (a := n) (X 1) hn2; omega)).symm
          rw [e9, hbq]
          exact ⟨_, rfl, rfl, rfl⟩
        · obtain ⟨k, hk1, hk2, hk4⟩ := x_kth (X 1) i (by omega)
          have hkm : X (62 + k) = m := of_decide_eq_true hk2
          have hk3 := hA k hk1 hk2
          rw [hk4] at hk3
          have hkb := x_hd_le (x_wf_y hw) hk1
          have hlk := hlf k hk1
          have hnk : n ≤ k := by
            by_cases e : n ≤ k
            · exact e
            · have := x_ct_mn (K := x_om X m) (a := k + 1) n (by omega)
              rw [x_ct_s, if_pos hk2] at this
              omega
          rw [x_bh_eq k hnk (by rw [hn, hk4])] at hbq
          have hbo := x_bh_ok _ _ hbq
          have hb3 := hA b (by omega) (decide_eq_true hbo.2.1)
          have hbb := x_hd_le (x_wf_y hw) (k := b) (by omega)
          have hcb5 : x_ct (x_om X m) b < 5 := by
            have h1 := x_ct_mn (K := x_om X m) (a := b + 1) (X 1) (by omega)
            rw [x_ct_s, if_pos (show x_om X m b = true from decide_eq_true hbo.2.1)] at h1
            omega
          refine r_aload_n dX1_choose_12 rfl rfl ?_
          refine s_getR dX1_choose_13 fX1_9 lysX1 rfl ?_
          refine r_iload_n dX1_choose_16 rfl rfl ?_
          refine a_ld dX1_choose_17 rfl (by omega) (by decide) hk3.1 ?_
          refine r_iload_n dX1_choose_18 rfl rfl ?_
          refine n_cgt (tgt := 35) dX1_choose_19 (by decide) (by omega) (by omega) (fun c19 => ?_) (fun c19 => ?_)
          · refine n_const 0 dX1_choose_35 (by decide) ?_
            refine r_istore dX1_choose_36 (by decide) rfl ?_
            refine r_iload dX1_choose_38 rfl ?_
            refine n_ifeq (tgt := 65) dX1_choose_40 (by decide) (by omega) (fun c40 => ?_) (fun c40 => ?_)
            · refine n_inc dX1_choose_65 rfl (n_i1 _) (by decide) rfl ?_
              refine r_goto (tgt := 4) dX1_choose_68 (by decide) ?_
              have q9 := fun L4 => ih (i + 1) (k + 1) L4 (by rw [x_ct_s, if_pos hk2, hk4]) (by omega) (by omega) (by omega)
              first
                | (rw [x_bh_y ⟨hkm, by omega, by omega⟩ hbq, if_pos (by omega)] at q9; rw [show (some k).map (x_ct (x_om X m)) = some i from congrArg some hk4] at q9; exact q9 _)
                | (rw [x_bh_y ⟨hkm, by omega, by omega⟩ hbq, if_neg (by omega)] at q9; exact q9 _)
                | (rw [x_bh_no (fun z => by have z2 := z.2; omega), hbq] at q9; exact q9 _)
            · exact absurd c40 (by decide)
          · refine r_aload_n dX1_choose_22 rfl rfl ?_
            refine s_getR dX1_choose_23 fX1_18 lysX1 rfl ?_
            refine r_iload_n dX1_choose_26 rfl rfl ?_
            refine a_ld dX1_choose_27 rfl (by omega) (by decide) hk3.2.2 ?_
            refine n_ifle (tgt := 35) dX1_choose_28 (by decide) (by omega) (fun c28 => ?_) (fun c28 => ?_)
            · refine n_const 0 dX1_choose_35 (by decide) ?_
              refine r_istore dX1_choose_36 (by decide) rfl ?_
              refine r_iload dX1_choose_38 rfl ?_
              refine n_ifeq (tgt := 65) dX1_choose_40 (by decide) (by omega) (fun c40 => ?_) (fun c40 => ?_)
              · refine n_inc dX1_choose_65 rfl (n_i1 _) (by decide) rfl ?_
                refine r_goto (tgt := 4) dX1_choose_68 (by decide) ?_
                have q9 := fun L4 => ih (i + 1) (k + 1) L4 (by rw [x_ct_s, if_pos hk2, hk4]) (by omega) (by omega) (by omega)
                first
                  | (rw [x_bh_y ⟨hkm, by omega, by omega⟩ hbq, if_pos (by omega)] at q9; rw [show (some k).map (x_ct (x_om X m)) = some i from congrArg some hk4] at q9; exact q9 _)
                  | (rw [x_bh_y ⟨hkm, by omega, by omega⟩ hbq, if_neg (by omega)] at q9; exact q9 _)
                  | (rw [x_bh_no (fun z => by have z2 := z.2; omega), hbq] at q9; exact q9 _)
              · exact absurd c40 (by decide)
            · refine n_const 1 dX1_choose_31 (by decide) ?_
              refine r_goto (tgt := 36) dX1_choose_32 (by decide) ?_
              refine r_istore dX1_choose_36 (by decide) rfl ?_
              refine r_iload dX1_choose_38 rfl ?_
              refine n_ifeq (tgt := 65) dX1_choose_40 (by decide) (by omega) (fun c40 => ?_) (fun c40 => ?_)
              · exact absurd c40 (by decide)
              · refine r_iload_n dX1_choose_43 rfl rfl ?_
                refine r_iconst (v := -1) dX1_choose_44 (by decide) ?_
                refine r_icmp_eq (tgt := 63) dX1_choose_45 (by decide) (fun c45 => ?_) (fun c45 => ?_)
                · exact absurd c45 (nI_m1 (by omega))
                · refine r_aload_n dX1_choose_48 rfl rfl ?_
                  refine s_getR dX1_choose_49 fX1_15 lysX1 rfl ?_
                  refine r_iload_n dX1_choose_52 rfl rfl ?_
                  refine a_ld dX1_choose_53 rfl (by omega) (by decide) hk3.2.1 ?_
                  refine r_aload_n dX1_choose_54 rfl rfl ?_
                  refine s_getR dX1_choose_55 fX1_15 lysX1 rfl ?_
                  refine r_iload_n dX1_choose_58 rfl rfl ?_
                  refine a_ld dX1_choose_59 rfl (by omega) (by decide) hb3.2.1 ?_
                  refine n_cle (tgt := 65) dX1_choose_60 (by decide) (by omega) (by omega) (fun c60 => ?_) (fun c60 => ?_)
                  · refine n_inc dX1_choose_65 rfl (n_i1 _) (by decide) rfl ?_
                    refine r_goto (tgt := 4) dX1_choose_68 (by decide) ?_
                    have q9 := fun L4 => ih (i + 1) (k + 1) L4 (by rw [x_ct_s, if_pos hk2, hk4]) (by omega) (by omega) (by omega)
                    first
                      | (rw [x_bh_y ⟨hkm, by omega, by omega⟩ hbq, if_pos (by omega)] at q9; rw [show (some k).map (x_ct (x_om X m)) = some i from congrArg some hk4] at q9; exact q9 _)
                      | (rw [x_bh_y ⟨hkm, by omega, by omega⟩ hbq, if_neg (by omega)] at q9; exact q9 _)
                      | (rw [x_bh_no (fun z => by have z2 := z.2; omega), hbq] at q9; exact q9 _)
                  · refine r_iload_n dX1_choose_63 rfl rfl ?_
                    refine r_istore_n dX1_choose_64 rfl (by decide) rfl ?_
                    refine n_inc dX1_choose_65 rfl (n_i1 _) (by decide) rfl ?_
                    refine r_goto (tgt := 4) dX1_choose_68 (by decide) ?_
                    have q9 := fun L4 => ih (i + 1) (k + 1) L4 (by rw [x_ct_s, if_pos hk2, hk4]) (by omega) (by omega) (by omega)
                    first
                      | (rw [x_bh_y ⟨hkm, by omega, by omega⟩ hbq, if_pos (by omega)] at q9; rw [show (some k).map (x_ct (x_om X m)) = some i from congrArg some hk4] at q9; exact q9 _)
                      | (rw [x_bh_y ⟨hkm, by omega, by omega⟩ hbq, if_neg (by omega)] at q9; exact q9 _)
                      | (rw [x_bh_no (fun z => by have z2 := z.2; omega), hbq] at q9; exact q9 _)
  refine r_iconst (v := -1) dX1_choose_0 (by decide) ?_
  refine r_istore_n dX1_choose_1 rfl (by decide) rfl ?_
  refine n_const 0 dX1_choose_2 (by decide) ?_
  refine r_istore_n dX1_choose_3 rfl (by decide) rfl ?_
  exact lp (x_ct (x_om X m) (X 1) + 1) 0 0 _ rfl (by omega) (by omega) (by omega)
