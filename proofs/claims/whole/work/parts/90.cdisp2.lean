section
/-! ===== the class: what a repair keeps, and the building ===== -/
theorem x_ct_t {K : Nat → Bool} {n : Nat} (h : K n = true) : x_ct K (n + 1) = x_ct K n + 1 := by rw [x_ct_s, if_pos h]
theorem x_ct_f {K : Nat → Bool} {n : Nat} (h : ¬ K n = true) : x_ct K (n + 1) = x_ct K n := by rw [x_ct_s, if_neg h, Nat.add_zero]
set_option maxRecDepth 20000 in
set_option maxHeartbeats 1000000 in
theorem d_startsBefore {G : q_G} {s : s_T} {X : x_T} {o m T : Nat} (ho : isX7 o) (hg : x_gd X) (hn : s (o + 34 + 1) m = nI (X (179 + m))) (hO : ∀ p, p < X (179 + m) → s (o + 34 + 3 + m) p = nI (X (183 + 5 * m + p))) (ht : c_t0 X s 124) (hm : m < 4) (hT : T ≤ 999) : s_W G mX3_startsBefore 1 0 0 (c_I (fun y9 s1 => s1 = s ∧ y9 = nI (x_sy X T m))) 0 (q_ent mX3_startsBefore [.ref o, .ref 124, .int (nI m), .int (nI T)]) [] s := by
  show s_W G mX3_startsBefore 1 0 0 _ 0 [some (.ref o), some (.ref 124), some (.int (nI m)), some (.int (nI T)), none, none] [] s
  have hmn := x_mn hg.1 hm
  have hs := x_sz hg.1
  have lp : ∀ f p, (∀ q, q < p → x_t0 X (X (183 + 5 * m + q)) < T) → p ≤ X (179 + m) → X (179 + m) < p + f → s_W G mX3_startsBefore 1 0 0 (c_I (fun y9 s1 => s1 = s ∧ y9 = nI (x_sy X T m))) 14 [some (.ref o), some (.ref 124), some (.int (nI m)), some (.int (nI T)), some (.int (nI (X (179 + m)))), some (.int (nI p))] [] s := by
    intro f
    induction f with
    | zero =>
      intro p h1 hp hme
      exact absurd hme (by omega)
    | succ f ih =>
      intro p h1 hp hme
      refine r_iload dX3_startsBefore_14 rfl ?_
      refine r_iload dX3_startsBefore_16 rfl ?_
      refine n_cge (tgt := 51) dX3_startsBefore_18 (by decide) (by omega) (by omega) (fun c18 => ?_) (fun c18 => ?_)
      · refine r_iload dX3_startsBefore_51 rfl ?_
        refine s_iret dX3_startsBefore_53 rfl rfl ?_
        have e9 : p = X (179 + m) := by omega
        exact ⟨_, rfl, rfl, by rw [← x_sy_eq (T := T) (a := p) (by omega) h1 (fun q => absurd q (by omega)) hg hm, e9]⟩
      · have hod := x_od hg.1 hm c18
        have hod1 := hod.1
        have htb := x_t0_bd hg hod.1
        refine r_aload_n dX3_startsBefore_21 rfl rfl ?_
        refine s_getR dX3_startsBefore_22 fX3_64 (layX10 isX10_124) rfl ?_
        refine r_aload_n dX3_startsBefore_25 rfl rfl ?_
        refine s_getR dX3_startsBefore_26 fX3_35 (layX7 ho) rfl ?_
        refine s_getR dX3_startsBefore_29 fX3_70 (layX5 (X7_orders ho)) rfl ?_
        refine r_iload_n dX3_startsBefore_32 rfl rfl ?_
        refine a_ald dX3_startsBefore_33 (X5_rows (X7_orders ho)) (by omega) (by decide) ?_
        refine r_iload dX3_startsBefore_34 rfl ?_
        refine a_ld dX3_startsBefore_36 (X5_rows_row (X7_orders ho) (by omega)) (by omega) (by decide) (hO p (by omega)) ?_
        refine a_ld dX3_startsBefore_37 (X10_start isX10_124) (by omega) (by decide) (ht _ hod.1).2.1 ?_
        refine r_iload_n dX3_startsBefore_38 rfl rfl ?_
        refine n_clt (tgt := 45) dX3_startsBefore_39 (by decide) (by omega) (by omega) (fun c39 => ?_) (fun c39 => ?_)
        · refine n_inc dX3_startsBefore_45 rfl (n_i1 _) (by decide) rfl ?_
          refine r_goto (tgt := 14) dX3_startsBefore_48 (by decide) ?_
          exact ih (p + 1) (fun q hq => by by_cases e : q = p; (· subst e; exact c39); exact h1 q (by omega)) (by omega) (by omega)
        · refine r_iload dX3_startsBefore_42 rfl ?_
          refine s_iret dX3_startsBefore_44 rfl rfl ?_
          exact ⟨_, rfl, rfl, by rw [← x_sy_eq (T := T) (a := p) (by omega) h1 (fun _ => c39) hg hm]⟩
  refine r_aload_n dX3_startsBefore_0 rfl rfl ?_
  refine s_getR dX3_startsBefore_1 fX3_35 (layX7 ho) rfl ?_
  refine s_getR dX3_startsBefore_4 fX3_57 (layX5 (X7_orders ho)) rfl ?_
  refine r_iload_n dX3_startsBefore_7 rfl rfl ?_
  refine a_ld dX3_startsBefore_8 (X5_sizes (X7_orders ho)) (by omega) (by decide) hn ?_
  refine r_istore dX3_startsBefore_9 (by decide) rfl ?_
  refine n_const 0 dX3_startsBefore_11 (by decide) ?_
  refine r_istore dX3_startsBefore_12 (by decide) rfl ?_
  exact lp (X (179 + m) + 1) 0 (fun q hq => absurd hq (by omega)) (by omega) (by omega)
set_option maxRecDepth 20000 in
set_option maxHeartbeats 1000000 in
theorem d_keepBeginnings {G : q_G} {s : s_T} {X : x_T} {o T : Nat} (ho : isX7 o) (hC : c_R X s o) (hg : x_gd X) (ht : c_t0 X s 124) (hT : T ≤ 999) : s_W G mX3_keepBeginnings 2 0 0 (c_I (fun y9 s1 => y9 = nI (x_ct (fun o => decide (x_t0 X o < T)) (X 1)) ∧ c_R (x_kp X T) s1 o ∧ (∀ j, j < 5 → s1 146 j = nI (x_g0 X T j)) ∧ (∀ q, q < X 1 → x_t0 X q < T → s1 145 q = nI (x_t0 X q + X (82 + q))) ∧ ∀ k, k ≠ o + 35 → k ≠ 145 → k ≠ 146 → s1 k = s k)) 0 (q_ent mX3_keepBeginnings [.ref 144, .ref o, .ref 124, .int (nI T)]) [] s := by
  show s_W G mX3_keepBeginnings 2 0 0 _ 0 [some (.ref 144), some (.ref o), some (.ref 124), some (.int (nI T)), none, none] [] s
  have hs := x_sz hg.1
  have ho2 := o7_le ho
  have hJ5 := hs.1
  have hJ : x_kp X T 0 ≤ 5 := by rw [show x_kp X T 0 = X 0 from x_kq_lo (by omega)]; exact hs.1
  have lC : ∀ f k s1, (∀ j, j < 5 → s1 146 j = nI (x_ct (fun o => decide (X (42 + o) = j ∧ x_t0 X o < T)) k)) → (∀ q, q < k → x_t0 X q < T → s1 145 q = nI (x_t0 X q + X (82 + q))) → c_R (x_kp X T) s1 o → (∀ k, k ≠ o + 35 → k ≠ 145 → k ≠ 146 → s1 k = s k) → k ≤ X 1 → X 1 < k + f → s_W G mX3_keepBeginnings 2 0 0 (c_I (fun y9 s1 => y9 = nI (x_ct (fun o => decide (x_t0 X o < T)) (X 1)) ∧ c_R (x_kp X T) s1 o ∧ (∀ j, j < 5 → s1 146 j = nI (x_g0 X T j)) ∧ (∀ q, q < X 1 → x_t0 X q < T → s1 145 q = nI (x_t0 X q + X (82 + q))) ∧ ∀ k, k ≠ o + 35 → k ≠ 145 → k ≠ 146 → s1 k = s k)) 62 [some (.ref 144), some (.ref o), some (.ref 124), some (.int (nI T)), some (.int (nI (x_ct (fun o => decide (x_t0 X o < T)) k))), some (.int (nI k))] [] s1 := by
    intro f
    induction f with
    | zero =>
      intro k s1 hj hE hR hf hk hme
      exact absurd hme (by omega)
    | succ f ih =>
      intro k s1 hj hE hR hf hk hme
      have hops : s1 o 1 = nI (X 1) := by rw [hf o (by omega) (by omega) (by omega)]; exact cl_ops hC
      have hkc := x_ct_le (K := fun o => decide (x_t0 X o < T)) k
      refine r_iload dX3_keepBeginnings_62 rfl ?_
      refine r_aload_n dX3_keepBeginnings_64 rfl rfl ?_
      refine s_getI dX3_keepBeginnings_65 fX3_22 (layX7 ho) rfl hops ?_
      refine n_cge (tgt := 121) dX3_keepBeginnings_68 (by decide) (by omega) (by omega) (fun c68 => ?_) (fun c68 => ?_)
      · refine r_iload dX3_keepBeginnings_121 rfl ?_
        refine s_iret dX3_keepBeginnings_123 rfl rfl ?_
        have e9 : k = X 1 := by omega
        subst e9
        exact ⟨_, rfl, rfl, hR, hj, hE, hf⟩
      · have hko := x_op hg.1 c68
        have htb := x_t0_bd hg c68
        have hgc := x_ct_le (K := fun o => decide (X (42 + o) = X (42 + k) ∧ x_t0 X o < T)) k
        refine r_aload_n dX3_keepBeginnings_71 rfl rfl ?_
        refine s_getR dX3_keepBeginnings_72 fX3_64 (layX10 isX10_124) rfl ?_
        refine r_iload dX3_keepBeginnings_75 rfl ?_
        refine a_ld dX3_keepBeginnings_77 (X10_start isX10_124) (by omega) (by decide) (show s1 126 k = nI (x_t0 X k) by rw [hf 126 (by omega) (by omega) (by omega)]; exact (ht k c68).2.1) ?_
        refine r_iload_n dX3_keepBeginnings_78 rfl rfl ?_
        refine n_cge (tgt := 115) dX3_keepBeginnings_79 (by decide) (by omega) (by omega) (fun c79 => ?_) (fun c79 => ?_)
        · refine n_inc dX3_keepBeginnings_115 rfl (n_i1 _) (by decide) rfl ?_
          refine r_goto (tgt := 62) dX3_keepBeginnings_118 (by decide) ?_
          first
            | (have e9 : x_ct (fun o => decide (x_t0 X o < T)) (k + 1) = (x_ct (fun o => decide (x_t0 X o < T)) k) := x_ct_f (fun z => by have := of_decide_eq_true z; omega)
               have q9 := ih (k + 1) s1 (fun j hj5 => by rw [x_ct_f (fun z => by have := of_decide_eq_true z; omega)]; exact hj j hj5) (fun q hq hqT => hE q (Nat.lt_of_le_of_ne (Nat.le_of_lt_succ hq) (fun z => by subst z; omega)) hqT) hR hf (by omega) (by omega)
               rw [e9] at q9
               exact q9)
            | (have e9 : x_ct (fun o => decide (x_t0 X o < T)) (k + 1) = (x_ct (fun o => decide (x_t0 X o < T)) k) + 1 := x_ct_t (decide_eq_true c79)
               rw [← e9]
               refine ih (k + 1) s3 (fun j hj5 => ?_) (fun q hq hqT => ?_) (c_R_fr (c_R_fr hR hf2 (Or.inl (by omega)) hJ) hf3 (Or.inl (by omega)) hJ) (fun q h1 h2 h3 => by rw [hf3 q (by omega), hf2 q (by omega)]; exact hf q h1 h2 h3) (by omega) (by omega)
               · rw [hs3]
                 by_cases e : j = X (42 + k)
                 · subst e; rw [pk_us, x_ct_t (decide_eq_true ⟨rfl, c79⟩)]
                 · rw [pk_un e, x_ct_f (fun z => e (of_decide_eq_true z).1.symm), hf2 146 (by omega)]; exact hj j hj5
               · rw [hf3 145 (by omega), hs2]
                 by_cases e : q = k
                 · subst e; rw [pk_us]
                 · rw [pk_un e]; exact hE q (by omega) hqT)
        · refine r_aload_n dX3_keepBeginnings_82 rfl rfl ?_
          refine s_getR dX3_keepBeginnings_83 fX3_9 lysX3 rfl ?_
          refine r_iload dX3_keepBeginnings_86 rfl ?_
          refine r_aload_n dX3_keepBeginnings_88 rfl rfl ?_
          refine s_getR dX3_keepBeginnings_89 fX3_69 (layX10 isX10_124) rfl ?_
          refine r_iload dX3_keepBeginnings_92 rfl ?_
          refine a_ld dX3_keepBeginnings_94 (X10_end isX10_124) (by omega) (by decide) (show s1 127 k = nI (x_t0 X k + X (82 + k)) by rw [hf 127 (by omega) (by omega) (by omega)]; exact (ht k c68).2.2.1) ?_
          refine a_st dX3_keepBeginnings_95 rfl (by omega) (by decide) (fun s2 hs2 hf2 => ?_)
          refine r_aload_n dX3_keepBeginnings_96 rfl rfl ?_
          refine s_getR dX3_keepBeginnings_97 fX3_15 lysX3 rfl ?_
          refine r_aload_n dX3_keepBeginnings_100 rfl rfl ?_
          refine s_getR dX3_keepBeginnings_101 fX3_54 (layX7 ho) rfl ?_
          refine r_iload dX3_keepBeginnings_104 rfl ?_
          refine a_ld dX3_keepBeginnings_106 (X7_jobOf ho) (by omega) (by decide) (show s2 (o + 14) k = nI (X (42 + k)) by rw [hf2 (o + 14) (by omega), hf (o + 14) (by omega) (by omega) (by omega)]; exact cl_job hC c68) ?_
          refine r_dup2 dX3_keepBeginnings_107 rfl rfl ?_
          refine a_ld dX3_keepBeginnings_108 rfl (by omega) (by decide) (show s2 146 (X (42 + k)) = nI (x_ct (fun o => decide (X (42 + o) = X (42 + k) ∧ x_t0 X o < T)) k) by rw [hf2 146 (by omega)]; exact hj _ (by omega)) ?_
          refine n_const 1 dX3_keepBeginnings_109 (by decide) ?_
          refine n_add dX3_keepBeginnings_110 ?_
          refine a_st dX3_keepBeginnings_111 rfl (by omega) (by decide) (fun s3 hs3 hf3 => ?_)
          refine n_inc dX3_keepBeginnings_112 rfl (n_i1 _) (by decide) rfl ?_
          refine n_inc dX3_keepBeginnings_115 rfl (n_i1 _) (by decide) rfl ?_
          refine r_goto (tgt := 62) dX3_keepBeginnings_118 (by decide) ?_
          first
            | (have e9 : x_ct (fun o => decide (x_t0 X o < T)) (k + 1) = (x_ct (fun o => decide (x_t0 X o < T)) k) := x_ct_f (fun z => by have := of_decide_eq_true z; omega)
               have q9 := ih (k + 1) s1 (fun j hj5 => by rw [x_ct_f (fun z => by have := of_decide_eq_true z; omega)]; exact hj j hj5) (fun q hq hqT => hE q (Nat.lt_of_le_of_ne (Nat.le_of_lt_succ hq) (fun z => by subst z; omega)) hqT) hR hf (by omega) (by omega)
               rw [e9] at q9
               exact q9)
            | (have e9 : x_ct (fun o => decide (x_t0 X o < T)) (k + 1) = (x_ct (fun o => decide (x_t0 X o < T)) k) + 1 := x_ct_t (decide_eq_true c79)
               rw [← e9]
               refine ih (k + 1) s3 (fun j hj5 => ?_) (fun q hq hqT => ?_) (c_R_fr (c_R_fr hR hf2 (Or.inl (by omega)) hJ) hf3 (Or.inl (by omega)) hJ) (fun q h1 h2 h3 => by rw [hf3 q (by omega), hf2 q (by omega)]; exact hf q h1 h2 h3) (by omega) (by omega)
               · rw [hs3]
                 by_cases e : j = X (42 + k)
                 · subst e; rw [pk_us, x_ct_t (decide_eq_true ⟨rfl, c79⟩)]
                 · rw [pk_un e, x_ct_f (fun z => e (of_decide_eq_true z).1.symm), hf2 146 (by omega)]; exact hj j hj5
               · rw [hf3 145 (by omega), hs2]
                 by_cases e : q = k
                 · subst e; rw [pk_us]
                 · rw [pk_un e]; exact hE q (by omega) hqT)
  have lB : ∀ f m s1, c_R (x_kq X (x_sy X T) m) s1 o → (∀ k, k ≠ o + 35 → k ≠ 146 → s1 k = s k) → (∀ j, j < 5 → s1 146 j = nI 0) → m ≤ 4 → 4 < m + f → s_W G mX3_keepBeginnings 2 0 0 (c_I (fun y9 s1 => y9 = nI (x_ct (fun o => decide (x_t0 X o < T)) (X 1)) ∧ c_R (x_kp X T) s1 o ∧ (∀ j, j < 5 → s1 146 j = nI (x_g0 X T j)) ∧ (∀ q, q < X 1 → x_t0 X q < T → s1 145 q = nI (x_t0 X q + X (82 + q))) ∧ ∀ k, k ≠ o + 35 → k ≠ 145 → k ≠ 146 → s1 k = s k)) 26 [some (.ref 144), some (.ref o), some (.ref 124), some (.int (nI T)), some (.int (nI m)), none] [] s1 := by
    intro f
    induction f with
    | zero =>
      intro m s1 hR hf hz hm4 hme
      exact absurd hme (by omega)
    | succ f ih =>
      intro m s1 hR hf hz hm4 hme
      refine r_iload dX3_keepBeginnings_26 rfl ?_
      refine n_const 4 dX3_keepBeginnings_28 (by decide) ?_
      refine n_cge (tgt := 56) dX3_keepBeginnings_29 (by decide) (by omega) (by omega) (fun c29 => ?_) (fun c29 => ?_)
      · refine n_const 0 dX3_keepBeginnings_56 (by decide) ?_
        refine r_istore dX3_keepBeginnings_57 (by decide) rfl ?_
        refine n_const 0 dX3_keepBeginnings_59 (by decide) ?_
        refine r_istore dX3_keepBeginnings_60 (by decide) rfl ?_
        have e9 : m = 4 := by omega
        subst e9
        exact lC (X 1 + 1) 0 s1 hz (fun q hq => absurd hq (by omega)) hR (fun q h1 h2 h3 => hf q h1 h3) (by omega) (by omega)
      · refine r_aload_n dX3_keepBeginnings_32 rfl rfl ?_
        refine s_getR dX3_keepBeginnings_33 fX3_35 (layX7 ho) rfl ?_
        refine s_getR dX3_keepBeginnings_36 fX3_57 (layX5 (X7_orders ho)) rfl ?_
        refine r_iload dX3_keepBeginnings_39 rfl ?_
        refine r_aload_n dX3_keepBeginnings_41 rfl rfl ?_
        refine r_aload_n dX3_keepBeginnings_42 rfl rfl ?_
        refine r_iload dX3_keepBeginnings_43 rfl ?_
        refine r_iload_n dX3_keepBeginnings_45 rfl rfl ?_
        refine s_S4I mX3_startsBefore dX3_keepBeginnings_46 okX3_startsBefore lX3_60 npX3_startsBefore (by decide) (by decide) (by decide) (Nat.le_of_ble_eq_true rfl) (Nat.le_of_ble_eq_true rfl) (d_startsBefore ho hg (by have q := cl_on hR (m := m) c29; rw [x_kq_lo (by omega)] at q; exact q) (fun p hp => by have q := cl_ord hR (m := m) (p := p) c29 (by rw [x_kq_lo (by omega)]; exact hp); rw [x_kq_lo (by omega)] at q; exact q) (fun q hq => by rw [hf 125 (by omega) (by omega), hf 126 (by omega) (by omega), hf 127 (by omega) (by omega), hf 128 (by omega) (by omega)]; exact ht q hq) c29 hT) (fun x s1 hq => ?_)
        obtain ⟨rfl, rfl⟩ := hq
        refine a_st dX3_keepBeginnings_49 (X5_sizes (X7_orders ho)) (by omega) (by decide) (fun s2 hs2 hf2 => ?_)
        refine n_inc dX3_keepBeginnings_50 rfl (n_i1 _) (by decide) rfl ?_
        refine r_goto (tgt := 26) dX3_keepBeginnings_53 (by decide) ?_
        refine ih (m + 1) s2 ?_ (fun q h1 h2 => by rw [hf2 q (by omega)]; exact hf q h1 h2) (fun j hj5 => by rw [hf2 146 (by omega)]; exact hz j hj5) (by omega) (by omega)
        exact c_R_on hR (y_wf_eq (x_wf_y hg.1) (fun k hk => x_kq_lo (by omega)) (fun m9 hm9 => by
          have h5 := (x_mn hg.1 hm9).2
          rw [x_kq_at]
          by_cases e : 179 ≤ 179 + m9 ∧ 179 + m9 < 179 + m
          · rw [if_pos e, show 179 + m9 - 179 = m9 by omega]; exact Nat.le_trans (x_ct_le _) h5
          · rw [if_neg e]; exact h5)) c29 (by rw [x_kq_lo (by omega)]; exact x_ct_le _) (s_pt hs2 hf2)
  have lA : ∀ f j s1, (∀ q, q < j → s1 146 q = nI 0) → s_fr 146 147 s s1 → j ≤ 5 → 5 < j + f → s_W G mX3_keepBeginnings 2 0 0 (c_I (fun y9 s1 => y9 = nI (x_ct (fun o => decide (x_t0 X o < T)) (X 1)) ∧ c_R (x_kp X T) s1 o ∧ (∀ j, j < 5 → s1 146 j = nI (x_g0 X T j)) ∧ (∀ q, q < X 1 → x_t0 X q < T → s1 145 q = nI (x_t0 X q + X (82 + q))) ∧ ∀ k, k ≠ o + 35 → k ≠ 145 → k ≠ 146 → s1 k = s k)) 3 [some (.ref 144), some (.ref o), some (.ref 124), some (.int (nI T)), some (.int (nI j)), none] [] s1 := by
    intro f
    induction f with
    | zero =>
      intro j s1 hz hf hj5 hme
      exact absurd hme (by omega)
    | succ f ih =>
      intro j s1 hz hf hj5 hme
      refine r_iload dX3_keepBeginnings_3 rfl ?_
      refine n_const 5 dX3_keepBeginnings_5 (by decide) ?_
      refine n_cge (tgt := 23) dX3_keepBeginnings_6 (by decide) (by omega) (by omega) (fun c6 => ?_) (fun c6 => ?_)
      · refine n_const 0 dX3_keepBeginnings_23 (by decide) ?_
        refine r_istore dX3_keepBeginnings_24 (by decide) rfl ?_
        exact lB 5 0 s1 (c_R_fr hC hf (Or.inl (by omega)) hJ5) (fun q h1 h2 => hf q (by omega)) (fun q hq => hz q (by omega)) (by omega) (by omega)
      · refine r_aload_n dX3_keepBeginnings_9 rfl rfl ?_
        refine s_getR dX3_keepBeginnings_10 fX3_15 lysX3 rfl ?_
        refine r_iload dX3_keepBeginnings_13 rfl ?_
        refine n_const 0 dX3_keepBeginnings_15 (by decide) ?_
        refine a_st dX3_keepBeginnings_16 rfl (by omega) (by decide) (fun s2 hs2 hf2 => ?_)
        refine n_inc dX3_keepBeginnings_17 rfl (n_i1 _) (by decide) rfl ?_
        refine r_goto (tgt := 3) dX3_keepBeginnings_20 (by decide) ?_
        refine ih (j + 1) s2 (fun q hq => ?_) (s_fr_tr hf hf2) (by omega) (by omega)
        rw [hs2]
        by_cases e : q = j
        · subst e; rw [pk_us]
        · rw [pk_un e]; exact hz q (by omega)
  refine n_const 0 dX3_keepBeginnings_0 (by decide) ?_
  refine r_istore dX3_keepBeginnings_1 (by decide) rfl ?_
  exact lA 6 0 s (fun q hq => absurd hq (by omega)) s_fr_rf (by omega) (by omega)
set_option maxRecDepth 20000 in
set_option maxHeartbeats 1000000 in
theorem d_build {G : q_G} {s : s_T} {X0 : x_T} {o T rl : Nat} (ho : isX7 o) (hC0 : c_R X0 s o) (hg : x_gd X0) (ht : c_t0 X0 s 124) (hT : T ≤ 999) (hr : rl ≤ 3) : s_W G mX3_build 4 0 0 (c_V (fun s1 => c_R (x_di X0 T rl) s1 o ∧ (∀ k, ¬ (o ≤ k ∧ k < o + 41) → ¬ (144 ≤ k ∧ k < 147) → s1 k = s k))) 0 (q_ent mX3_build [.ref 144, .ref o, .ref 124, .int (nI T), .int (nI rl)]) [] s := by
  show s_W G mX3_build 4 0 0 _ 0 [some (.ref 144), some (.ref o), some (.ref 124), some (.int (nI T)), some (.int (nI rl)), none, none] [] s
  have hs0 := x_sz hg.1
  have ho2 := o7_le ho
  obtain ⟨XE, hXd⟩ : ∃ XE, XE = x_di X0 T rl := ⟨_, rfl⟩
  obtain ⟨c0, hc0⟩ : ∃ c0, c0 = x_ct (fun o => decide (x_t0 X0 o < T)) (X0 1) := ⟨_, rfl⟩
  have lp : ∀ f X g fx rk c s1, c_R X s1 o → y_iv X g fx rk c → (∀ q, q < X 1 → y_K X g q = true → s1 145 q = nI (fx q + X (82 + q))) → (∀ j, j < 5 → s1 146 j = nI (g j)) → (∀ k, ¬ (o ≤ k ∧ k < o + 41) → ¬ (144 ≤ k ∧ k < 147) → s1 k = s k) → x_bu T rl f X g fx = XE → X 1 = X0 1 → X0 1 ≤ c + f → s_W G mX3_build 4 0 0 (c_V (fun s1 => c_R (x_di X0 T rl) s1 o ∧ (∀ k, ¬ (o ≤ k ∧ k < o + 41) → ¬ (144 ≤ k ∧ k < 147) → s1 k = s k))) 13 [some (.ref 144), some (.ref o), some (.ref 124), some (.int (nI T)), some (.int (nI rl)), some (.int (nI c0)), some (.int (nI c))] [] s1 := by
    intro f
    induction f with
    | zero =>
      intro X g fx rk c s1 hC h hE hgv hf hX hX1 hme
      have hs := y_sz h.1.1
      have hc20 := y_c h
      have e0 : X 1 ≤ c := by omega
      have hC := hC
      have hops := cl_ops hC
      refine r_iload dX3_build_13 rfl ?_
      refine r_aload_n dX3_build_15 rfl rfl ?_
      refine s_getI dX3_build_16 fX3_22 (layX7 ho) rfl (cl_ops hC) ?_
      refine n_cge (tgt := 106) dX3_build_19 (by decide) (by omega) (by omega) (fun c19 => ?_) (fun c19 => ?_)
      · refine s_vret dX3_build_106 rfl ?_
        refine ⟨rfl, ?_, hf⟩
        rw [← hXd, ← hX]; exact hC
      · exact absurd c19 (by omega)
    | succ f ih =>
      intro X g fx rk c s1 hC h hE hgv hf hX hX1 hme
      have hc20 := y_c h
      have hw := h.1.1
      have hs := y_sz hw
      have hops := cl_ops hC
      refine r_iload dX3_build_13 rfl ?_
      refine r_aload_n dX3_build_15 rfl rfl ?_
      refine s_getI dX3_build_16 fX3_22 (layX7 ho) rfl (cl_ops hC) ?_
      refine n_cge (tgt := 106) dX3_build_19 (by decide) (by omega) (by omega) (fun c19 => ?_) (fun c19 => ?_)
      · refine s_vret dX3_build_106 rfl ?_
        refine ⟨rfl, ?_, hf⟩
        have e9 := x_bu_n (y_full_n (T := T) (rl := rl) h (by omega)) (f + 1)
        rw [hX] at e9
        rw [← hXd, e9]; exact hC
      · refine r_aload_n dX3_build_22 rfl rfl ?_
        refine r_aload_n dX3_build_23 rfl rfl ?_
        refine r_iload_n dX3_build_24 rfl rfl ?_
        refine r_iload dX3_build_25 rfl ?_
        refine s_V3V mX3_choose dX3_build_27 okX3_choose lX3_28 npX3_choose lysX3 rfl (by decide) (by decide) (by decide) (Nat.le_of_ble_eq_true rfl) (Nat.le_of_ble_eq_true rfl) (d_choose ho hC h hT hr hE hgv) (fun s1 hq => ?_)
        obtain ⟨q2, q3, hf2⟩ := hq
        replace hC := c_R_fr hC hf2 (Or.inl (by omega)) hs.1
        cases hbq : x_cz X g fx T rl (X 0) with
        | none =>
          refine r_aload_n dX3_build_30 rfl rfl ?_
          refine s_getI dX3_build_31 fX3_32 lysX3 rfl (show s1 144 2 = -1 by rw [q2, hbq]; rfl) ?_
          refine r_iconst (v := -1) dX3_build_34 (by decide) ?_
          refine r_icmp_ne (tgt := 39) dX3_build_35 (by decide) (fun c35 => ?_) (fun c35 => ?_)
          · exact absurd rfl c35
          · refine s_vret dX3_build_38 rfl ?_
            refine ⟨rfl, ?_, fun k h1 h2 => by rw [hf2 k (by omega)]; exact hf k h1 h2⟩
            have e9 := x_bu_n hbq (f + 1)
            rw [hX] at e9
            rw [← hXd, e9]; exact hC
        | some b =>
          have q2b : s1 144 2 = nI b := by rw [q2, hbq]; rfl
          have q3b := q3 b hbq
          have hbc := y_cz hw (Nat.le_refl _) hbq
          have hbc1 := hbc.1
          have hbo := y_op hw hbc1
          have hm4 := hbo.2.2.2.2.2.2.1
          have hr5 := y_room h hbc
          have hbs := y_cs h hbc hT
          have hc20 := y_c h
          have hgl := h.1.2.1 _ hbo.2.2.1
          refine r_aload_n dX3_build_30 rfl rfl ?_
          refine s_getI dX3_build_31 fX3_32 lysX3 rfl q2b ?_
          refine r_iconst (v := -1) dX3_build_34 (by decide) ?_
          refine r_icmp_ne (tgt := 39) dX3_build_35 (by decide) (fun c35 => ?_) (fun c35 => ?_)
          · refine r_aload_n dX3_build_39 rfl rfl ?_
            refine s_getR dX3_build_40 fX3_35 (layX7 ho) rfl ?_
            refine r_aload_n dX3_build_43 rfl rfl ?_
            refine s_getR dX3_build_44 fX3_39 (layX7 ho) rfl ?_
            refine r_aload_n dX3_build_47 rfl rfl ?_
            refine s_getI dX3_build_48 fX3_32 lysX3 rfl q2b ?_
            refine a_ld dX3_build_51 (X7_machineOf ho) (by omega) (by decide) (cl_mc hC (by omega)) ?_
            refine r_aload_n dX3_build_52 rfl rfl ?_
            refine s_getI dX3_build_53 fX3_32 lysX3 rfl q2b ?_
            refine s_V2V mX5_addLast dX3_build_56 okX5_addLast lX3_42 npX5_addLast (layX5 (X7_orders ho)) rfl (by decide) (by decide) (by decide) (Nat.le_of_ble_eq_true rfl) (Nat.le_of_ble_eq_true rfl) (c_addLast (n := X (179 + X (62 + b))) (X7_orders ho) hm4 hr5 (by rw [show o + 34 + 1 = o + 35 by omega]; exact cl_on hC hm4)) (fun s3 hq => ?_)
            have p9 := hq
            have p3 : ∀ k, k ≠ o + 34 + 1 ∧ k ≠ o + 34 + 3 + X (62 + b) → s3 k = s1 k := fun k hk => by funext j; rw [p9, if_neg (by omega), if_neg (by omega)]
            have hC3 : c_R (x_ad X b) s3 o := c_R_ad hC hw hm4 hr5 p9
            refine r_aload_n dX3_build_59 rfl rfl ?_
            refine s_getR dX3_build_60 fX3_9 lysX3 rfl ?_
            refine r_aload_n dX3_build_63 rfl rfl ?_
            refine s_getI dX3_build_64 fX3_32 lysX3 rfl (show s3 144 2 = nI b by rw [p3 _ (by omega)]; exact q2b) ?_
            refine r_aload_n dX3_build_67 rfl rfl ?_
            refine s_getI dX3_build_68 fX3_48 lysX3 rfl (show s3 144 3 = nI (x_cs X fx T b) by rw [p3 _ (by omega)]; exact q3b) ?_
            refine r_aload_n dX3_build_71 rfl rfl ?_
            refine s_getR dX3_build_72 fX3_51 (layX7 ho) rfl ?_
            refine r_aload_n dX3_build_75 rfl rfl ?_
            refine s_getI dX3_build_76 fX3_32 lysX3 rfl (show s3 144 2 = nI b by rw [p3 _ (by omega)]; exact q2b) ?_
            refine a_ld dX3_build_79 (X7_durations ho) (by omega) (by decide) (show s3 (o + 16) b = nI (X (82 + b)) by rw [p3 _ (by omega)]; exact cl_du hC hbc1) ?_
            refine n_add dX3_build_80 ?_
            refine a_st dX3_build_81 rfl (by omega) (by decide) (fun s4 hs4 hf4 => ?_)
            refine r_aload_n dX3_build_82 rfl rfl ?_
            refine s_getR dX3_build_83 fX3_15 lysX3 rfl ?_
            refine r_aload_n dX3_build_86 rfl rfl ?_
            refine s_getR dX3_build_87 fX3_54 (layX7 ho) rfl ?_
            refine r_aload_n dX3_build_90 rfl rfl ?_
            refine s_getI dX3_build_91 fX3_32 lysX3 rfl (show s4 144 2 = nI b by rw [hf4 144 (by omega), p3 _ (by omega)]; exact q2b) ?_
            refine a_ld dX3_build_94 (X7_jobOf ho) (by omega) (by decide) (show s4 (o + 14) b = nI (X (42 + b)) by rw [hf4 (o + 14) (by omega), p3 _ (by omega)]; exact cl_job hC hbc1) ?_
            refine r_dup2 dX3_build_95 rfl rfl ?_
            refine a_ld dX3_build_96 rfl (by omega) (by decide) (show s4 146 (X (42 + b)) = nI (g (X (42 + b))) by rw [hf4 146 (by omega), p3 _ (by omega), hf2 146 (by omega)]; exact hgv _ (by omega)) ?_
            refine n_const 1 dX3_build_97 (by decide) ?_
            refine n_add dX3_build_98 ?_
            refine a_st dX3_build_99 rfl (by omega) (by decide) (fun s5 hs5 hf5 => ?_)
            refine n_inc dX3_build_100 rfl (n_i1 _) (by decide) rfl ?_
            refine r_goto (tgt := 13) dX3_build_103 (by decide) ?_
            have hJ5 : x_ad X b 0 ≤ 5 := by rw [y_ad_lo (by omega)]; exact hs.1
            have e1 : x_ad X b 1 = X 1 := y_ad_lo (by omega)
            refine ih (x_ad X b) _ _ _ (c + 1) s5 (c_R_fr (c_R_fr hC3 hf4 (Or.inl (by omega)) hJ5) hf5 (Or.inl (by omega)) hJ5) (y_iv_s h hbc hT) (fun q hq hqK => ?_) (fun j hj5 => ?_) (fun k h1 h2 => ?_) ?_ (e1.trans hX1) (by omega)
            · rw [e1] at hq
              rw [y_K_ad hw hbc hq] at hqK
              rw [hf5 145 (by omega), hs4, y_ad_lo (by have := hs.2; omega)]
              by_cases e : q = b
              · subst e; rw [pk_us, va_up_s]
              · rw [va_up_n e] at hqK ⊢; rw [pk_un e, p3 _ (by omega), hf2 145 (by omega)]; exact hE q hq hqK
            · rw [hs5]
              by_cases e : j = X (42 + b)
              · subst e; rw [pk_us, va_up_s]
              · rw [pk_un e, va_up_n e, hf4 146 (by omega), p3 _ (by omega), hf2 146 (by omega)]; exact hgv j hj5
            · rw [hf5 k (by omega), hf4 k (by omega), p3 k (by omega), hf2 k (by omega)]; exact hf k h1 h2
            · rw [← hX]; exact (x_bu_s hbq).symm
          · exact absurd c35 (nI_m1 (by omega))
  refine r_aload_n dX3_build_0 rfl rfl ?_
  refine r_aload_n dX3_build_1 rfl rfl ?_
  refine r_aload_n dX3_build_2 rfl rfl ?_
  refine r_iload_n dX3_build_3 rfl rfl ?_
  refine s_V3I mX3_keepBeginnings dX3_build_4 okX3_keepBeginnings lX3_18 npX3_keepBeginnings lysX3 rfl (by decide) (by decide) (by decide) (Nat.le_of_ble_eq_true rfl) (Nat.le_of_ble_eq_true rfl) (d_keepBeginnings ho hC0 hg ht hT) (fun x s1 hq => ?_)
  obtain ⟨rfl, q2, q3, q4, q5⟩ := hq
  obtain ⟨rk, hiv⟩ := x_kp_iv hg T
  refine r_istore dX3_build_7 (by decide) rfl ?_
  refine r_iload dX3_build_9 rfl ?_
  refine r_istore dX3_build_11 (by decide) rfl ?_
  rw [← hc0]
  rw [← hc0] at hiv
  refine lp 20 _ _ _ rk c0 s1 q2 hiv (fun q hq hqK => ?_) q3 (fun k h1 h2 => q5 k (by omega) (by omega) (by omega)) (by rw [hXd]; rfl) (x_kq_lo (by omega)) (by omega)
  rw [show x_kp X0 T 1 = X0 1 from x_kq_lo (by omega)] at hq
  rw [x_kp_K hg hq] at hqK
  rw [show x_kp X0 T (82 + q) = X0 (82 + q) from x_kq_lo (by omega)]
  exact q4 q hq (of_decide_eq_true hqK)
theorem z_wf_X {z : z_T} {X : x_T} (hz : z_wf z) (hX : x_gd X) : z_wf (va_up z 0 X) := ⟨hX, hz.2⟩
set_option maxRecDepth 20000 in
set_option maxHeartbeats 1000000 in
theorem c_dispatchFrom {G : q_G} {s : s_T} {z : z_T} (hz : z_wf z) (hZ : c_Z z s) {T rl : Nat} (hT : T ≤ 999) (hr : rl ≤ 3) : s_W G mX11_dispatchFrom 6 0 0 (c_I (fun y9 s1 => y9 = nI (x_s0 (x_di (z 0) T rl)) ∧ c_Z (va_up z 0 (x_di (z 0) T rl)) s1 ∧ s_fr 0 212 s s1)) 0 (q_ent mX11_dispatchFrom [.ref 0, .int (nI T), .int (nI rl)]) [] s := by
  show s_W G mX11_dispatchFrom 6 0 0 _ 0 [some (.ref 0), some (.int (nI T)), some (.int (nI rl))] [] s
  have hw := hz.1.1
  have hs := x_sz hw
  have hC := hZ.1
  have hf : s_fr 0 212 s s := s_fr_rf
  have ho : isX7 1 := Or.inl rfl
  refine r_aload_n dX11_dispatchFrom_0 rfl rfl ?_
  refine s_getR dX11_dispatchFrom_1 fX11_25 lysX11 rfl ?_
  refine r_aload_n dX11_dispatchFrom_4 rfl rfl ?_
  refine s_getR dX11_dispatchFrom_5 fX11_10 lysX11 rfl ?_
  refine s_V1I mX10_compute dX11_dispatchFrom_8 okX10_compute lX11_221 npX10_compute (layX10 isX10_124) rfl (by decide) (by decide) (by decide) (Nat.le_of_ble_eq_true rfl) (Nat.le_of_ble_eq_true rfl) (c_compute0 ho isX10_124 hC (z_gd hz) (c_Q_h (c_Z_Q hZ) (Or.inl rfl)).1 (c_Q_h (c_Z_Q hZ) (Or.inl rfl)).2) (fun x s1 hq => ?_)
  obtain ⟨rfl, ht, h6, h5, h9, h10, hf1⟩ := hq
  replace hC := c_R_fr hC hf1 (Or.inl (by omega)) hs.1
  replace hZ := c_Z_e0 hZ hz hC (c_eq_tt (Or.inl rfl) h5 h9 h10 hf1)
  replace hf := s_fr_tr hf (s_fr_w hf1 (by omega) (by omega))
  refine r_pop dX11_dispatchFrom_11 rfl ?_
  refine r_aload_n dX11_dispatchFrom_12 rfl rfl ?_
  refine s_getR dX11_dispatchFrom_13 fX11_42 lysX11 rfl ?_
  refine r_aload_n dX11_dispatchFrom_16 rfl rfl ?_
  refine s_getR dX11_dispatchFrom_17 fX11_10 lysX11 rfl ?_
  refine r_aload_n dX11_dispatchFrom_20 rfl rfl ?_
  refine s_getR dX11_dispatchFrom_21 fX11_25 lysX11 rfl ?_
  refine r_iload_n dX11_dispatchFrom_24 rfl rfl ?_
  refine r_iload_n dX11_dispatchFrom_25 rfl rfl ?_
  refine s_V4V mX3_build dX11_dispatchFrom_26 okX3_build lX11_406 npX3_build lysX3 rfl (by decide) (by decide) (by decide) (Nat.le_of_ble_eq_true rfl) (Nat.le_of_ble_eq_true rfl) (d_build ho hC (z_gd hz) ht hT hr) (fun s1 hq => ?_)
  obtain ⟨hX, hfb⟩ := hq
  have hz2 := z_wf_X hz (x_di_gd (z_gd hz) (T := T) (rl := rl) hT)
  have hZ2 := c_Z_eq hZ hX ⟨fun k hk => hfb k (by omega) (by omega), by rw [hfb 161 (by omega) (by omega)], fun q hq => by rw [hfb q (by omega) (by omega)]; exact ⟨rfl, rfl⟩⟩ (z_J hz)
  replace hf : s_fr 0 212 s s1 := fun k hk => by rw [hfb k (by omega) (by omega)]; exact hf k hk
  refine r_aload_n dX11_dispatchFrom_29 rfl rfl ?_
  refine s_V0I mX11_presentSpan dX11_dispatchFrom_30 okX11_presentSpan lX11_234 npX11_presentSpan lysX11 rfl (by decide) (by decide) (by decide) (Nat.le_of_ble_eq_true rfl) (Nat.le_of_ble_eq_true rfl) (c_presentSpan hz2 hZ2) (fun x s1 hq => ?_)
  obtain ⟨rfl, ht2, hC2, hZ3, hf2⟩ := hq
  refine s_iret dX11_dispatchFrom_33 rfl rfl ?_
  exact ⟨_, rfl, rfl, hZ3, s_fr_tr hf hf2⟩
set_option maxRecDepth 20000 in
set_option maxHeartbeats 1000000 in
theorem c_dispatch {G : q_G} {s : s_T} {z : z_T} (hz : z_wf z) (hZ : c_Z z s) {a : Int32} : s_W G mX11_dispatch 8 2 12 (c_P [q_IA] (A_dispatch z a) s) 0 (q_ent mX11_dispatch [.ref 0, .int a]) [] s := by
  show s_W G mX11_dispatch 8 2 12 _ 0 [some (.ref 0), some (.int a)] [] s
  have hw := hz.1.1
  have hs := x_sz hw
  have hC := hZ.1
  have hf : s_fr 0 212 s s := s_fr_rf
  have ho : isX7 1 := Or.inl rfl
  refine r_iload_n dX11_dispatch_0 rfl rfl ?_
  refine s_S1X mX11_requireRule dX11_dispatch_1 okX11_requireRule lX11_302 npX11_requireRule (by decide) (by decide) (by decide) (Nat.le_of_ble_eq_true rfl) (Nat.le_of_ble_eq_true rfl) c_requireRule (fun v s1 hq => ?_) (fun E s1 hq => by obtain ⟨rfl, c9, rfl⟩ := c_rq_f hq; exact x_out rfl (s_end (c_P_e 1 (by unfold A_dispatch; simp [*]) (by decide) rfl hZ hf)))
  obtain ⟨rfl, c1, rfl⟩ := c_rq_t hq
  obtain ⟨rl, rfl, -, hrl, hrl2⟩ := iIn_n c1
  have erl := iN_n hrl2
  refine r_aload_n dX11_dispatch_4 rfl rfl ?_
  refine n_const 0 dX11_dispatch_5 (by decide) ?_
  refine r_iload_n dX11_dispatch_6 rfl rfl ?_
  refine s_V2I mX11_dispatchFrom dX11_dispatch_7 okX11_dispatchFrom lX11_305 npX11_dispatchFrom lysX11 rfl (by decide) (by decide) (by decide) (Nat.le_of_ble_eq_true rfl) (Nat.le_of_ble_eq_true rfl) (c_dispatchFrom hz hZ (by omega) hrl) (fun x s1 hq => ?_)
  obtain ⟨rfl, hZ2, hf2⟩ := hq
  replace hf := s_fr_tr hf hf2
  refine s_iret dX11_dispatch_10 rfl rfl ?_
  exact c_P_n (by unfold A_dispatch; simp [*]) hZ2 hf
set_option maxRecDepth 20000 in
set_option maxHeartbeats 1000000 in
theorem c_repair {G : q_G} {s : s_T} {z : z_T} (hz : z_wf z) (hZ : c_Z z s) {t a : Int32} : s_W G mX11_repair 8 2 12 (c_P [q_IA] (A_repair z t a) s) 0 (q_ent mX11_repair [.ref 0, .int t, .int a]) [] s := by
  show s_W G mX11_repair 8 2 12 _ 0 [some (.ref 0), some (.int t), some (.int a)] [] s
  have hw := hz.1.1
  have hs := x_sz hw
  have hC := hZ.1
  have hf : s_fr 0 212 s s := s_fr_rf
  have ho : isX7 1 := Or.inl rfl
  refine r_iload_n dX11_repair_0 rfl rfl ?_
  refine n_sip 999 dX11_repair_1 (by decide) ?_
  refine s_S2I mX11_within dX11_repair_4 okX11_within lX11_138 npX11_within (by decide) (by decide) (by decide) (Nat.le_of_ble_eq_true rfl) (Nat.le_of_ble_eq_true rfl) (c_within (by decide)) (fun x s1 hq => ?_)
  obtain ⟨rfl, rfl⟩ := hq
  refine b_ifne (tgt := 21) dX11_repair_7 (by decide) (fun c7 => ?_) (fun c7 => ?_)
  · obtain ⟨t, rfl, ht0, ht, ht2⟩ := iIn_n c7
    have et := iN_n ht2
    refine r_iload_n dX11_repair_21 rfl rfl ?_
    refine s_S1X mX11_requireRule dX11_repair_22 okX11_requireRule lX11_302 npX11_requireRule (by decide) (by decide) (by decide) (Nat.le_of_ble_eq_true rfl) (Nat.le_of_ble_eq_true rfl) c_requireRule (fun v s1 hq => ?_) (fun E s1 hq => by obtain ⟨rfl, c9, rfl⟩ := c_rq_f hq; exact x_out rfl (s_end (c_P_e 1 (by unfold A_repair; simp [*]) (by decide) rfl hZ hf)))
    obtain ⟨rfl, c22, rfl⟩ := c_rq_t hq
    obtain ⟨rl, rfl, -, hrl, hrl2⟩ := iIn_n c22
    have erl := iN_n hrl2
    refine r_aload_n dX11_repair_25 rfl rfl ?_
    refine r_iload_n dX11_repair_26 rfl rfl ?_
    refine r_iload_n dX11_repair_27 rfl rfl ?_
    refine s_V2I mX11_dispatchFrom dX11_repair_28 okX11_dispatchFrom lX11_305 npX11_dispatchFrom lysX11 rfl (by decide) (by decide) (by decide) (Nat.le_of_ble_eq_true rfl) (Nat.le_of_ble_eq_true rfl) (c_dispatchFrom hz hZ (by omega) hrl) (fun x s1 hq => ?_)
    obtain ⟨rfl, hZ2, hf2⟩ := hq
    replace hf := s_fr_tr hf hf2
    refine s_iret dX11_repair_31 rfl rfl ?_
    exact c_P_n (by unfold A_repair; simp [*]) hZ2 hf
  · refine s_throwSW dX11_repair_10 dX11_repair_13 dX11_repair_14 dX11_repair_17 dX11_repair_20 thrX11_308_96 rfl (by decide) (by decide) (by decide) (Nat.le_of_ble_eq_true rfl) ?_
    exact c_P_e 1 (by unfold A_repair; simp [*]) (by decide) rfl hZ hf
end
