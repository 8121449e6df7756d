set_option maxHeartbeats 1000000 in
theorem c_R_addJob {X : x_T} {s s1 : s_T} {o r u w : Nat} (hC : c_R X s o) (hw : x_wf X) (hJ : X 0 < 5) (hp : ∀ a9 b9, s1 a9 b9 = if a9 = o ∧ b9 = 0 then nI (X 0 + 1) else if a9 = o + 7 ∧ b9 = X 0 then nI 0 else if a9 = o + 2 + X 0 ∧ b9 = 2 then nI w else if a9 = o + 2 + X 0 ∧ b9 = 1 then nI u else if a9 = o + 2 + X 0 ∧ b9 = 0 then nI r else s a9 b9) : c_R (x_addJob X r u w) s1 o := by
  have hX : ∀ k9, (x_addJob X r u w) k9 = if k9 = 0 then X 0 + 1 else if k9 = 17 + X 0 then 0 else if k9 = 12 + X 0 then w else if k9 = 7 + X 0 then u else if k9 = 2 + X 0 then r else X k9 := fun k9 => rfl
  have hs := x_sz hw
  refine ⟨⟨?_, ?_⟩, fun j9 hj9 => ?_, fun k9 hk9 => ?_, fun f9 g9 hf9 hg9 => ?_, fun m9 hm9 => ?_, fun m9 hm9 => ?_⟩
  · rw [hp, hX]
    (repeat first | rw [if_neg (by omega)] | rw [if_pos (by omega)])
    all_goals first | rfl | (exact cl_jobs hC) | (congr 1; omega)
  · rw [hp, hX]
    (repeat first | rw [if_neg (by omega)] | rw [if_pos (by omega)])
    all_goals first | rfl | (exact cl_ops hC) | (congr 1; omega)
  · rw [hX] at hj9
    (repeat first | rw [if_neg (by omega)] at hj9 | rw [if_pos (by omega)] at hj9)
    have hjb : j9 < X 0 → X (17 + j9) ≤ 4 := fun q => (x_jb hw q).2.2.2.2.2
    refine ⟨?_, ?_, ?_, ?_, fun i9 hi9 => ?_⟩
    · rw [hp, hX]
      by_cases e1 : j9 = X 0
      · (repeat first | rw [if_neg (by omega)] | rw [if_pos (by omega)])
        all_goals first | rfl | (exact cl_rel hC (by omega)) | (congr 1; omega)
      · (repeat first | rw [if_neg (by omega)] | rw [if_pos (by omega)])
        all_goals first | rfl | (exact cl_rel hC (by omega)) | (congr 1; omega)
    · rw [hp, hX]
      by_cases e1 : j9 = X 0
      · (repeat first | rw [if_neg (by omega)] | rw [if_pos (by omega)])
        all_goals first | rfl | (exact cl_due hC (by omega)) | (congr 1; omega)
      · (repeat first | rw [if_neg (by omega)] | rw [if_pos (by omega)])
        all_goals first | rfl | (exact cl_due hC (by omega)) | (congr 1; omega)
    · rw [hp, hX]
      by_cases e1 : j9 = X 0
      · (repeat first | rw [if_neg (by omega)] | rw [if_pos (by omega)])
        all_goals first | rfl | (exact cl_wt hC (by omega)) | (congr 1; omega)
      · (repeat first | rw [if_neg (by omega)] | rw [if_pos (by omega)])
        all_goals first | rfl | (exact cl_wt hC (by omega)) | (congr 1; omega)
    · rw [hp, hX]
      by_cases e1 : j9 = X 0
      · (repeat first | rw [if_neg (by omega)] | rw [if_pos (by omega)])
        all_goals first | rfl | (exact cl_len hC (by omega)) | (congr 1; omega)
      · (repeat first | rw [if_neg (by omega)] | rw [if_pos (by omega)])
        all_goals first | rfl | (exact cl_len hC (by omega)) | (congr 1; omega)
    · rw [hX] at hi9
      by_cases e9 : j9 = X 0
      · subst e9
        (repeat first | rw [if_neg (by omega)] at hi9 | rw [if_pos (by omega)] at hi9)
        rw [hp, hX]
        (repeat first | rw [if_neg (by omega)] | rw [if_pos (by omega)])
        all_goals first | rfl | (exact cl_rt hC (by omega) (by omega)) | (congr 1; omega)
      · (repeat first | rw [if_neg (by omega)] at hi9 | rw [if_pos (by omega)] at hi9)
        rw [hp, hX]
        (repeat first | rw [if_neg (by omega)] | rw [if_pos (by omega)])
        all_goals first | rfl | (exact cl_rt hC (by omega) (by omega)) | (congr 1; omega)
  · rw [hX] at hk9
    (repeat first | rw [if_neg (by omega)] at hk9 | rw [if_pos (by omega)] at hk9)
    refine ⟨?_, ?_, ?_, ?_, ?_⟩
    · rw [hp, hX]
      (repeat first | rw [if_neg (by omega)] | rw [if_pos (by omega)])
      all_goals first | rfl | (exact cl_job hC (by omega)) | (congr 1; omega)
    · rw [hp, hX]
      (repeat first | rw [if_neg (by omega)] | rw [if_pos (by omega)])
      all_goals first | rfl | (exact cl_mc hC (by omega)) | (congr 1; omega)
    · rw [hp, hX]
      (repeat first | rw [if_neg (by omega)] | rw [if_pos (by omega)])
      all_goals first | rfl | (exact cl_du hC (by omega)) | (congr 1; omega)
    · rw [hp, hX]
      (repeat first | rw [if_neg (by omega)] | rw [if_pos (by omega)])
      all_goals first | rfl | (exact cl_fa hC (by omega)) | (congr 1; omega)
    · rw [hp, hX]
      (repeat first | rw [if_neg (by omega)] | rw [if_pos (by omega)])
      all_goals first | rfl | (exact cl_st hC (by omega)) | (congr 1; omega)
  · rw [hp, hX]
    (repeat first | rw [if_neg (by omega)] | rw [if_pos (by omega)])
    all_goals first | rfl | (exact cl_su hC (by omega) (by omega)) | (congr 1; omega)
  · have hmn := x_mn hw hm9
    refine ⟨?_, fun i9 hi9 => ?_⟩
    · rw [hp, hX]
      (repeat first | rw [if_neg (by omega)] | rw [if_pos (by omega)])
      all_goals first | rfl | (exact cl_bn hC (by omega)) | (congr 1; omega)
    · rw [hX] at hi9
      (repeat first | rw [if_neg (by omega)] at hi9 | rw [if_pos (by omega)] at hi9)
      refine ⟨?_, ?_⟩
      · rw [hp, hX]
        (repeat first | rw [if_neg (by omega)] | rw [if_pos (by omega)])
        all_goals first | rfl | (exact cl_bf hC (by omega) (by omega)) | (congr 1; omega)
      · rw [hp, hX, hX]
        (repeat first | rw [if_neg (by omega)] | rw [if_pos (by omega)])
        all_goals first | rfl | (exact cl_bb hC (by omega) (by omega)) | (congr 1; omega)
  · have hmn := x_mn hw hm9
    refine ⟨?_, fun p9 hp9 => ?_⟩
    · rw [hp, hX]
      (repeat first | rw [if_neg (by omega)] | rw [if_pos (by omega)])
      all_goals first | rfl | (exact cl_on hC (by omega)) | (congr 1; omega)
    · rw [hX] at hp9
      (repeat first | rw [if_neg (by omega)] at hp9 | rw [if_pos (by omega)] at hp9)
      rw [hp, hX]
      (repeat first | rw [if_neg (by omega)] | rw [if_pos (by omega)])
      all_goals first | rfl | (exact cl_ord hC (by omega) (by omega)) | (congr 1; omega)
set_option maxRecDepth 20000 in
set_option maxHeartbeats 1000000 in
theorem c_cCreateJob {G : q_G} {s : s_T} {X : x_T} {o r u w : Nat} (ho : isX7 o) (hC : c_R X s o) (hw : x_wf X) (hJ : X 0 < 5) : s_W G mX7_createJob 1 0 0 (c_I (fun x s1 => x = nI (X 0) ∧ c_R (x_addJob X r u w) s1 o ∧ s_fr o (o + 41) s s1)) 0 (q_ent mX7_createJob [.ref o, .int (nI r), .int (nI u), .int (nI w)]) [] s := by
  show s_W G mX7_createJob 1 0 0 _ 0 [some (.ref o), some (.int (nI r)), some (.int (nI u)), some (.int (nI w)), none] [] s
  have hs := x_sz hw
  have ho2 := o7_le ho
  refine r_aload_n dX7_createJob_0 rfl rfl ?_
  refine s_getI dX7_createJob_1 fX7_57 (layX7 ho) rfl (cl_jobs hC) ?_
  refine r_istore dX7_createJob_4 (by decide) rfl ?_
  refine r_aload_n dX7_createJob_6 rfl rfl ?_
  refine s_getR dX7_createJob_7 fX7_11 (layX7 ho) rfl ?_
  refine r_iload dX7_createJob_10 rfl ?_
  refine a_ald dX7_createJob_12 (X7_jobData ho) (by omega) (by decide) ?_
  refine n_const 0 dX7_createJob_13 (by decide) ?_
  refine r_iload_n dX7_createJob_14 rfl rfl ?_
  refine a_st dX7_createJob_15 (X7_jobData_row ho (by omega)) (by omega) (by decide) (fun s1 hs1 hf1 => ?_)
  refine r_aload_n dX7_createJob_16 rfl rfl ?_
  refine s_getR dX7_createJob_17 fX7_11 (layX7 ho) rfl ?_
  refine r_iload dX7_createJob_20 rfl ?_
  refine a_ald dX7_createJob_22 (X7_jobData ho) (by omega) (by decide) ?_
  refine n_const 1 dX7_createJob_23 (by decide) ?_
  refine r_iload_n dX7_createJob_24 rfl rfl ?_
  refine a_st dX7_createJob_25 (X7_jobData_row ho (by omega)) (by omega) (by decide) (fun s2 hs2 hf2 => ?_)
  refine r_aload_n dX7_createJob_26 rfl rfl ?_
  refine s_getR dX7_createJob_27 fX7_11 (layX7 ho) rfl ?_
  refine r_iload dX7_createJob_30 rfl ?_
  refine a_ald dX7_createJob_32 (X7_jobData ho) (by omega) (by decide) ?_
  refine n_const 2 dX7_createJob_33 (by decide) ?_
  refine r_iload_n dX7_createJob_34 rfl rfl ?_
  refine a_st dX7_createJob_35 (X7_jobData_row ho (by omega)) (by omega) (by decide) (fun s3 hs3 hf3 => ?_)
  refine r_aload_n dX7_createJob_36 rfl rfl ?_
  refine s_getR dX7_createJob_37 fX7_16 (layX7 ho) rfl ?_
  refine r_iload dX7_createJob_40 rfl ?_
  refine n_const 0 dX7_createJob_42 (by decide) ?_
  refine a_st dX7_createJob_43 (X7_stepCounts ho) (by omega) (by decide) (fun s4 hs4 hf4 => ?_)
  refine r_aload_n dX7_createJob_44 rfl rfl ?_
  refine r_iload dX7_createJob_45 rfl ?_
  refine n_const 1 dX7_createJob_47 (by decide) ?_
  refine n_add dX7_createJob_48 ?_
  refine a_put dX7_createJob_49 gX7_57 (layX7 ho) rfl rfl rfl (fun s5 hs5 hf5 => ?_)
  refine r_iload dX7_createJob_52 rfl ?_
  refine s_iret dX7_createJob_54 rfl rfl ?_
  have p1 := s_pt hs1 hf1
  have p2 := s_pt hs2 hf2
  have p3 := s_pt hs3 hf3
  have p4 := s_pt hs4 hf4
  have p5 := s_pt hs5 hf5
  exact ⟨_, rfl, rfl, c_R_addJob hC hw hJ (fun a9 b9 => by rw [p5, p4, p3, p2, p1]), fun q hq => by rw [hf5 q (by omega), hf4 q (by omega), hf3 q (by omega), hf2 q (by omega), hf1 q (by omega)]⟩
set_option maxHeartbeats 1000000 in
theorem c_R_addBr {X : x_T} {s s1 : s_T} {o m a n : Nat} (hC : c_R X s o) (hw : x_wf X) (hm : m < 4) (hB : X (151 + m) < 3) (hp : ∀ a9 b9, s1 a9 b9 = if a9 = o + 23 ∧ b9 = m then nI (X (151 + m) + 1) else if a9 = o + 30 + m ∧ b9 = X (151 + m) then nI (a + n) else if a9 = o + 25 + m ∧ b9 = X (151 + m) then nI a else s a9 b9) : c_R (x_addBr X m a n) s1 o := by
  have hX : ∀ k9, (x_addBr X m a n) k9 = if k9 = 151 + m then X (151 + m) + 1 else if k9 = 167 + (3 * m + X (151 + m)) then n else if k9 = 155 + (3 * m + X (151 + m)) then a else X k9 := fun k9 => rfl
  have hs := x_sz hw
  refine ⟨⟨?_, ?_⟩, fun j9 hj9 => ?_, fun k9 hk9 => ?_, fun f9 g9 hf9 hg9 => ?_, fun m9 hm9 => ?_, fun m9 hm9 => ?_⟩
  · rw [hp, hX]
    (repeat first | rw [if_neg (by omega)] | rw [if_pos (by omega)])
    all_goals first | rfl | (exact cl_jobs hC) | (congr 1; omega)
  · rw [hp, hX]
    (repeat first | rw [if_neg (by omega)] | rw [if_pos (by omega)])
    all_goals first | rfl | (exact cl_ops hC) | (congr 1; omega)
  · rw [hX] at hj9
    (repeat first | rw [if_neg (by omega)] at hj9 | rw [if_pos (by omega)] at hj9)
    have hjb : j9 < X 0 → X (17 + j9) ≤ 4 := fun q => (x_jb hw q).2.2.2.2.2
    refine ⟨?_, ?_, ?_, ?_, fun i9 hi9 => ?_⟩
    · rw [hp, hX]
      (repeat first | rw [if_neg (by omega)] | rw [if_pos (by omega)])
      all_goals first | rfl | (exact cl_rel hC (by omega)) | (congr 1; omega)
    · rw [hp, hX]
      (repeat first | rw [if_neg (by omega)] | rw [if_pos (by omega)])
      all_goals first | rfl | (exact cl_due hC (by omega)) | (congr 1; omega)
    · rw [hp, hX]
      (repeat first | rw [if_neg (by omega)] | rw [if_pos (by omega)])
      all_goals first | rfl | (exact cl_wt hC (by omega)) | (congr 1; omega)
    · rw [hp, hX]
      (repeat first | rw [if_neg (by omega)] | rw [if_pos (by omega)])
      all_goals first | rfl | (exact cl_len hC (by omega)) | (congr 1; omega)
    · rw [hX] at hi9
      (repeat first | rw [if_neg (by omega)] at hi9 | rw [if_pos (by omega)] at hi9)
      rw [hp, hX]
      (repeat first | rw [if_neg (by omega)] | rw [if_pos (by omega)])
      all_goals first | rfl | (exact cl_rt hC (by omega) (by omega)) | (congr 1; omega)
  · rw [hX] at hk9
    (repeat first | rw [if_neg (by omega)] at hk9 | rw [if_pos (by omega)] at hk9)
    refine ⟨?_, ?_, ?_, ?_, ?_⟩
    · rw [hp, hX]
      (repeat first | rw [if_neg (by omega)] | rw [if_pos (by omega)])
      all_goals first | rfl | (exact cl_job hC (by omega)) | (congr 1; omega)
    · rw [hp, hX]
      (repeat first | rw [if_neg (by omega)] | rw [if_pos (by omega)])
      all_goals first | rfl | (exact cl_mc hC (by omega)) | (congr 1; omega)
    · rw [hp, hX]
      (repeat first | rw [if_neg (by omega)] | rw [if_pos (by omega)])
      all_goals first | rfl | (exact cl_du hC (by omega)) | (congr 1; omega)
    · rw [hp, hX]
      (repeat first | rw [if_neg (by omega)] | rw [if_pos (by omega)])
      all_goals first | rfl | (exact cl_fa hC (by omega)) | (congr 1; omega)
    · rw [hp, hX]
      (repeat first | rw [if_neg (by omega)] | rw [if_pos (by omega)])
      all_goals first | rfl | (exact cl_st hC (by omega)) | (congr 1; omega)
  · rw [hp, hX]
    (repeat first | rw [if_neg (by omega)] | rw [if_pos (by omega)])
    all_goals first | rfl | (exact cl_su hC (by omega) (by omega)) | (congr 1; omega)
  · have hmn := x_mn hw hm9
    refine ⟨?_, fun i9 hi9 => ?_⟩
    · rw [hp, hX]
      by_cases e1 : m9 = m
      · (repeat first | rw [if_neg (by omega)] | rw [if_pos (by omega)])
        all_goals first | rfl | (exact cl_bn hC (by omega)) | (congr 1; omega)
      · (repeat first | rw [if_neg (by omega)] | rw [if_pos (by omega)])
        all_goals first | rfl | (exact cl_bn hC (by omega)) | (congr 1; omega)
    · rw [hX] at hi9
      by_cases e9 : m9 = m
      · subst e9
        (repeat first | rw [if_neg (by omega)] at hi9 | rw [if_pos (by omega)] at hi9)
        refine ⟨?_, ?_⟩
        · rw [hp, hX]
          by_cases e1 : i9 = X (151 + m9)
          · (repeat first | rw [if_neg (by omega)] | rw [if_pos (by omega)])
            all_goals first | rfl | (exact cl_bf hC (by omega) (by omega)) | (congr 1; omega)
          · (repeat first | rw [if_neg (by omega)] | rw [if_pos (by omega)])
            all_goals first | rfl | (exact cl_bf hC (by omega) (by omega)) | (congr 1; omega)
        · rw [hp, hX, hX]
          by_cases e1 : i9 = X (151 + m9)
          · (repeat first | rw [if_neg (by omega)] | rw [if_pos (by omega)])
            all_goals first | rfl | (exact cl_bb hC (by omega) (by omega)) | (congr 1; omega)
          · (repeat first | rw [if_neg (by omega)] | rw [if_pos (by omega)])
            all_goals first | rfl | (exact cl_bb hC (by omega) (by omega)) | (congr 1; omega)
      · (repeat first | rw [if_neg (by omega)] at hi9 | rw [if_pos (by omega)] at hi9)
        refine ⟨?_, ?_⟩
        · rw [hp, hX]
          by_cases e1 : i9 = X (151 + m9)
          · (repeat first | rw [if_neg (by omega)] | rw [if_pos (by omega)])
            all_goals first | rfl | (exact cl_bf hC (by omega) (by omega)) | (congr 1; omega)
          · (repeat first | rw [if_neg (by omega)] | rw [if_pos (by omega)])
            all_goals first | rfl | (exact cl_bf hC (by omega) (by omega)) | (congr 1; omega)
        · rw [hp, hX, hX]
          by_cases e1 : i9 = X (151 + m9)
          · (repeat first | rw [if_neg (by omega)] | rw [if_pos (by omega)])
            all_goals first | rfl | (exact cl_bb hC (by omega) (by omega)) | (congr 1; omega)
          · (repeat first | rw [if_neg (by omega)] | rw [if_pos (by omega)])
            all_goals first | rfl | (exact cl_bb hC (by omega) (by omega)) | (congr 1; omega)
  · have hmn := x_mn hw hm9
    refine ⟨?_, fun p9 hp9 => ?_⟩
    · rw [hp, hX]
      (repeat first | rw [if_neg (by omega)] | rw [if_pos (by omega)])
      all_goals first | rfl | (exact cl_on hC (by omega)) | (congr 1; omega)
    · rw [hX] at hp9
      (repeat first | rw [if_neg (by omega)] at hp9 | rw [if_pos (by omega)] at hp9)
      rw [hp, hX]
      (repeat first | rw [if_neg (by omega)] | rw [if_pos (by omega)])
      all_goals first | rfl | (exact cl_ord hC (by omega) (by omega)) | (congr 1; omega)
set_option maxRecDepth 20000 in
set_option maxHeartbeats 1000000 in
theorem c_createBreakdown {G : q_G} {s : s_T} {X : x_T} {o m a n : Nat} (ho : isX7 o) (hC : c_R X s o) (hw : x_wf X) (hm : m < 4) (hB : X (151 + m) < 3) : s_W G mX7_createBreakdown 1 0 0 (c_I (fun x s1 => x = nI (X (151 + m) + 1) ∧ c_R (x_addBr X m a n) s1 o ∧ s_fr o (o + 41) s s1)) 0 (q_ent mX7_createBreakdown [.ref o, .int (nI m), .int (nI a), .int (nI n)]) [] s := by
  show s_W G mX7_createBreakdown 1 0 0 _ 0 [some (.ref o), some (.int (nI m)), some (.int (nI a)), some (.int (nI n)), none] [] s
  have hs := x_sz hw
  have ho2 := o7_le ho
  refine r_aload_n dX7_createBreakdown_0 rfl rfl ?_
  refine s_getR dX7_createBreakdown_1 fX7_41 (layX7 ho) rfl ?_
  refine r_iload_n dX7_createBreakdown_4 rfl rfl ?_
  refine a_ld dX7_createBreakdown_5 (X7_breakdowns ho) (by omega) (by decide) (cl_bn hC (by omega)) ?_
  refine r_istore dX7_createBreakdown_6 (by decide) rfl ?_
  refine r_aload_n dX7_createBreakdown_8 rfl rfl ?_
  refine s_getR dX7_createBreakdown_9 fX7_44 (layX7 ho) rfl ?_
  refine r_iload_n dX7_createBreakdown_12 rfl rfl ?_
  refine a_ald dX7_createBreakdown_13 (X7_breakFirst ho) (by omega) (by decide) ?_
  refine r_iload dX7_createBreakdown_14 rfl ?_
  refine r_iload_n dX7_createBreakdown_16 rfl rfl ?_
  refine a_st dX7_createBreakdown_17 (X7_breakFirst_row ho (by omega)) (by omega) (by decide) (fun s1 hs1 hf1 => ?_)
  refine r_aload_n dX7_createBreakdown_18 rfl rfl ?_
  refine s_getR dX7_createBreakdown_19 fX7_47 (layX7 ho) rfl ?_
  refine r_iload_n dX7_createBreakdown_22 rfl rfl ?_
  refine a_ald dX7_createBreakdown_23 (X7_breakBehind ho) (by omega) (by decide) ?_
  refine r_iload dX7_createBreakdown_24 rfl ?_
  refine r_iload_n dX7_createBreakdown_26 rfl rfl ?_
  refine r_iload_n dX7_createBreakdown_27 rfl rfl ?_
  refine n_add dX7_createBreakdown_28 ?_
  refine a_st dX7_createBreakdown_29 (X7_breakBehind_row ho (by omega)) (by omega) (by decide) (fun s2 hs2 hf2 => ?_)
  refine r_aload_n dX7_createBreakdown_30 rfl rfl ?_
  refine s_getR dX7_createBreakdown_31 fX7_41 (layX7 ho) rfl ?_
  refine r_iload_n dX7_createBreakdown_34 rfl rfl ?_
  refine r_iload dX7_createBreakdown_35 rfl ?_
  refine n_const 1 dX7_createBreakdown_37 (by decide) ?_
  refine n_add dX7_createBreakdown_38 ?_
  refine a_st dX7_createBreakdown_39 (X7_breakdowns ho) (by omega) (by decide) (fun s3 hs3 hf3 => ?_)
  refine r_iload dX7_createBreakdown_40 rfl ?_
  refine n_const 1 dX7_createBreakdown_42 (by decide) ?_
  refine n_add dX7_createBreakdown_43 ?_
  refine s_iret dX7_createBreakdown_44 rfl rfl ?_
  have p1 := s_pt hs1 hf1
  have p2 := s_pt hs2 hf2
  have p3 := s_pt hs3 hf3
  exact ⟨_, rfl, rfl, c_R_addBr hC hw hm hB (fun a9 b9 => by rw [p3, p2, p1]), fun q hq => by rw [hf3 q (by omega), hf2 q (by omega), hf1 q (by omega)]⟩
theorem o5_le {q : Nat} (h : isX5 q) : 35 ≤ q ∧ q ≤ 174 := by rcases h with rfl | rfl | rfl | rfl <;> decide
set_option maxRecDepth 20000 in
set_option maxHeartbeats 1000000 in
theorem c_addLast {G : q_G} {s : s_T} {q m n : Nat} {v : Int32} (hq : isX5 q) (hm : m < 4) (hn : n < 5) (h1 : s (q + 1) m = nI n) : s_W G mX5_addLast 1 0 0 (c_V (fun s1 => ∀ a9 b9, s1 a9 b9 = if a9 = q + 1 ∧ b9 = m then nI (n + 1) else if a9 = q + 3 + m ∧ b9 = n then v else s a9 b9)) 0 (q_ent mX5_addLast [.ref q, .int (nI m), .int v]) [] s := by
  show s_W G mX5_addLast 1 0 0 _ 0 [some (.ref q), some (.int (nI m)), some (.int v), none] [] s
  have hq2 := o5_le hq
  refine r_aload_n dX5_addLast_0 rfl rfl ?_
  refine s_getR dX5_addLast_1 fX5_9 (layX5 hq) rfl ?_
  refine r_iload_n dX5_addLast_4 rfl rfl ?_
  refine a_ld dX5_addLast_5 (X5_sizes hq) (by omega) (by decide) h1 ?_
  refine r_istore_n dX5_addLast_6 rfl (by decide) rfl ?_
  refine r_iload_n dX5_addLast_7 rfl rfl ?_
  refine n_const 5 dX5_addLast_8 (by decide) ?_
  refine n_cge (tgt := 30) dX5_addLast_9 (by decide) (by omega) (by omega) (fun c9 => ?_) (fun c9 => ?_)
  · exact absurd c9 (by omega)
  · refine r_aload_n dX5_addLast_12 rfl rfl ?_
    refine s_getR dX5_addLast_13 fX5_17 (layX5 hq) rfl ?_
    refine r_iload_n dX5_addLast_16 rfl rfl ?_
    refine a_ald dX5_addLast_17 (X5_rows hq) (by omega) (by decide) ?_
    refine r_iload_n dX5_addLast_18 rfl rfl ?_
    refine r_iload_n dX5_addLast_19 rfl rfl ?_
    refine a_st dX5_addLast_20 (X5_rows_row hq (by omega)) (by omega) (by decide) (fun s1 hs1 hf1 => ?_)
    refine r_aload_n dX5_addLast_21 rfl rfl ?_
    refine s_getR dX5_addLast_22 fX5_9 (layX5 hq) rfl ?_
    refine r_iload_n dX5_addLast_25 rfl rfl ?_
    refine r_iload_n dX5_addLast_26 rfl rfl ?_
    refine n_const 1 dX5_addLast_27 (by decide) ?_
    refine n_add dX5_addLast_28 ?_
    refine a_st dX5_addLast_29 (X5_sizes hq) (by omega) (by decide) (fun s2 hs2 hf2 => ?_)
    refine s_vret dX5_addLast_30 rfl ?_
    have p1 := s_pt hs1 hf1
    have p2 := s_pt hs2 hf2
    exact ⟨rfl, fun a9 b9 => by rw [p2, p1]⟩
set_option maxHeartbeats 1000000 in
theorem c_R_addOp {X : x_T} {s s1 : s_T} {o j m d f : Nat} (hC : c_R X s o) (hw : x_wf X) (hj : j < X 0) (hm : m < 4) (h1 : X 1 < 20) (h2 : X (17 + j) < 4) (h3 : X (179 + m) < 5) (hp : ∀ a9 b9, s1 a9 b9 = if a9 = o + 34 + 1 ∧ b9 = m then nI (X (179 + m) + 1) else if a9 = o + 34 + 3 + m ∧ b9 = X (179 + m) then nI (X 1) else if a9 = o ∧ b9 = 1 then nI (X 1 + 1) else if a9 = o + 18 ∧ b9 = X 1 then nI (X (17 + j)) else if a9 = o + 17 ∧ b9 = X 1 then nI f else if a9 = o + 16 ∧ b9 = X 1 then nI d else if a9 = o + 15 ∧ b9 = X 1 then nI m else if a9 = o + 14 ∧ b9 = X 1 then nI j else if a9 = o + 7 ∧ b9 = j then nI (X (17 + j) + 1) else if a9 = o + 9 + j ∧ b9 = X (17 + j) then nI (X 1) else s a9 b9) : c_R (x_addOp X j m d f) s1 o := by
  have hX : ∀ k9, (x_addOp X j m d f) k9 = if k9 = 1 then X 1 + 1 else if k9 = 179 + m then X (179 + m) + 1 else if k9 = 183 + 5 * m + X (179 + m) then X 1 else if k9 = 17 + j then X (17 + j) + 1 else if k9 = 22 + 4 * j + X (17 + j) then X 1 else if k9 = 122 + X 1 then X (17 + j) else if k9 = 102 + X 1 then f else if k9 = 82 + X 1 then d else if k9 = 62 + X 1 then m else if k9 = 42 + X 1 then j else X k9 := fun k9 => rfl
  have hs := x_sz hw
  refine ⟨⟨?_, ?_⟩, fun j9 hj9 => ?_, fun k9 hk9 => ?_, fun f9 g9 hf9 hg9 => ?_, fun m9 hm9 => ?_, fun m9 hm9 => ?_⟩
  · rw [hp, hX]
    (repeat first | rw [if_neg (by omega)] | rw [if_pos (by omega)])
    all_goals first | rfl | (exact cl_jobs hC) | (congr 1; omega)
  · rw [hp, hX]
    (repeat first | rw [if_neg (by omega)] | rw [if_pos (by omega)])
    all_goals first | rfl | (exact cl_ops hC) | (congr 1; omega)
  · rw [hX] at hj9
    (repeat first | rw [if_neg (by omega)] at hj9 | rw [if_pos (by omega)] at hj9)
    have hjb : j9 < X 0 → X (17 + j9) ≤ 4 := fun q => (x_jb hw q).2.2.2.2.2
    refine ⟨?_, ?_, ?_, ?_, fun i9 hi9 => ?_⟩
    · rw [hp, hX]
      (repeat first | rw [if_neg (by omega)] | rw [if_pos (by omega)])
      all_goals first | rfl | (exact cl_rel hC (by omega)) | (congr 1; omega)
    · rw [hp, hX]
      (repeat first | rw [if_neg (by omega)] | rw [if_pos (by omega)])
      all_goals first | rfl | (exact cl_due hC (by omega)) | (congr 1; omega)
    · rw [hp, hX]
      (repeat first | rw [if_neg (by omega)] | rw [if_pos (by omega)])
      all_goals first | rfl | (exact cl_wt hC (by omega)) | (congr 1; omega)
    · rw [hp, hX]
      by_cases e1 : j9 = j
      · (repeat first | rw [if_neg (by omega)] | rw [if_pos (by omega)])
        all_goals first | rfl | (exact cl_len hC (by omega)) | (congr 1; omega)
      · (repeat first | rw [if_neg (by omega)] | rw [if_pos (by omega)])
        all_goals first | rfl | (exact cl_len hC (by omega)) | (congr 1; omega)
    · rw [hX] at hi9
      by_cases e9 : j9 = j
      · subst e9
        (repeat first | rw [if_neg (by omega)] at hi9 | rw [if_pos (by omega)] at hi9)
        rw [hp, hX]
        by_cases e1 : i9 = X (17 + j9)
        · (repeat first | rw [if_neg (by omega)] | rw [if_pos (by omega)])
          all_goals first | rfl | (exact cl_rt hC (by omega) (by omega)) | (congr 1; omega)
        · (repeat first | rw [if_neg (by omega)] | rw [if_pos (by omega)])
          all_goals first | rfl | (exact cl_rt hC (by omega) (by omega)) | (congr 1; omega)
      · (repeat first | rw [if_neg (by omega)] at hi9 | rw [if_pos (by omega)] at hi9)
        rw [hp, hX]
        by_cases e1 : i9 = X (17 + j9)
        · (repeat first | rw [if_neg (by omega)] | rw [if_pos (by omega)])
          all_goals first | rfl | (exact cl_rt hC (by omega) (by omega)) | (congr 1; omega)
        · (repeat first | rw [if_neg (by omega)] | rw [if_pos (by omega)])
          all_goals first | rfl | (exact cl_rt hC (by omega) (by omega)) | (congr 1; omega)
  · rw [hX] at hk9
    (repeat first | rw [if_neg (by omega)] at hk9 | rw [if_pos (by omega)] at hk9)
    refine ⟨?_, ?_, ?_, ?_, ?_⟩
    · rw [hp, hX]
      by_cases e1 : k9 = X 1
      · (repeat first | rw [if_neg (by omega)] | rw [if_pos (by omega)])
        all_goals first | rfl | (exact cl_job hC (by omega)) | (congr 1; omega)
      · (repeat first | rw [if_neg (by omega)] | rw [if_pos (by omega)])
        all_goals first | rfl | (exact cl_job hC (by omega)) | (congr 1; omega)
    · rw [hp, hX]
      by_cases e1 : k9 = X 1
      · (repeat first | rw [if_neg (by omega)] | rw [if_pos (by omega)])
        all_goals first | rfl | (exact cl_mc hC (by omega)) | (congr 1; omega)
      · (repeat first | rw [if_neg (by omega)] | rw [if_pos (by omega)])
        all_goals first | rfl | (exact cl_mc hC (by omega)) | (congr 1; omega)
    · rw [hp, hX]
      by_cases e1 : k9 = X 1
      · (repeat first | rw [if_neg (by omega)] | rw [if_pos (by omega)])
        all_goals first | rfl | (exact cl_du hC (by omega)) | (congr 1; omega)
      · (repeat first | rw [if_neg (by omega)] | rw [if_pos (by omega)])
        all_goals first | rfl | (exact cl_du hC (by omega)) | (congr 1; omega)
    · rw [hp, hX]
      by_cases e1 : k9 = X 1
      · (repeat first | rw [if_neg (by omega)] | rw [if_pos (by omega)])
        all_goals first | rfl | (exact cl_fa hC (by omega)) | (congr 1; omega)
      · (repeat first | rw [if_neg (by omega)] | rw [if_pos (by omega)])
        all_goals first | rfl | (exact cl_fa hC (by omega)) | (congr 1; omega)
    · rw [hp, hX]
      by_cases e1 : k9 = X 1
      · (repeat first | rw [if_neg (by omega)] | rw [if_pos (by omega)])
        all_goals first | rfl | (exact cl_st hC (by omega)) | (congr 1; omega)
      · (repeat first | rw [if_neg (by omega)] | rw [if_pos (by omega)])
        all_goals first | rfl | (exact cl_st hC (by omega)) | (congr 1; omega)
  · rw [hp, hX]
    (repeat first | rw [if_neg (by omega)] | rw [if_pos (by omega)])
    all_goals first | rfl | (exact cl_su hC (by omega) (by omega)) | (congr 1; omega)
  · have hmn := x_mn hw hm9
    refine ⟨?_, fun i9 hi9 => ?_⟩
    · rw [hp, hX]
      (repeat first | rw [if_neg (by omega)] | rw [if_pos (by omega)])
      all_goals first | rfl | (exact cl_bn hC (by omega)) | (congr 1; omega)
    · rw [hX] at hi9
      (repeat first | rw [if_neg (by omega)] at hi9 | rw [if_pos (by omega)] at hi9)
      refine ⟨?_, ?_⟩
      · rw [hp, hX]
        (repeat first | rw [if_neg (by omega)] | rw [if_pos (by omega)])
        all_goals first | rfl | (exact cl_bf hC (by omega) (by omega)) | (congr 1; omega)
      · rw [hp, hX, hX]
        (repeat first | rw [if_neg (by omega)] | rw [if_pos (by omega)])
        all_goals first | rfl | (exact cl_bb hC (by omega) (by omega)) | (congr 1; omega)
  · have hmn := x_mn hw hm9
    refine ⟨?_, fun p9 hp9 => ?_⟩
    · rw [hp, hX]
      by_cases e1 : m9 = m
      · (repeat first | rw [if_neg (by omega)] | rw [if_pos (by omega)])
        all_goals first | rfl | (exact cl_on hC (by omega)) | (congr 1; omega)
      · (repeat first | rw [if_neg (by omega)] | rw [if_pos (by omega)])
        all_goals first | rfl | (exact cl_on hC (by omega)) | (congr 1; omega)
    · rw [hX] at hp9
      by_cases e9 : m9 = m
      · subst e9
        (repeat first | rw [if_neg (by omega)] at hp9 | rw [if_pos (by omega)] at hp9)
        rw [hp, hX]
        by_cases e1 : p9 = X (179 + m9)
        · (repeat first | rw [if_neg (by omega)] | rw [if_pos (by omega)])
          all_goals first | rfl | (exact cl_ord hC (by omega) (by omega)) | (congr 1; omega)
        · (repeat first | rw [if_neg (by omega)] | rw [if_pos (by omega)])
          all_goals first | rfl | (exact cl_ord hC (by omega) (by omega)) | (congr 1; omega)
      · (repeat first | rw [if_neg (by omega)] at hp9 | rw [if_pos (by omega)] at hp9)
        rw [hp, hX]
        by_cases e1 : p9 = X (179 + m9)
        · (repeat first | rw [if_neg (by omega)] | rw [if_pos (by omega)])
          all_goals first | rfl | (exact cl_ord hC (by omega) (by omega)) | (congr 1; omega)
        · (repeat first | rw [if_neg (by omega)] | rw [if_pos (by omega)])
          all_goals first | rfl | (exact cl_ord hC (by omega) (by omega)) | (congr 1; omega)
set_option maxRecDepth 20000 in
set_option maxHeartbeats 1000000 in
theorem c_cCreateOperation {G : q_G} {s : s_T} {X : x_T} {o j m d f : Nat} (ho : isX7 o) (hC : c_R X s o) (hw : x_wf X) (hj : j < X 0) (hm : m < 4) (h1 : X 1 < 20) (h2 : X (17 + j) < 4) (h3 : X (179 + m) < 5) : s_W G mX7_createOperation 2 0 0 (c_I (fun x s1 => x = nI (X 1) ∧ c_R (x_addOp X j m d f) s1 o ∧ s_fr o (o + 41) s s1)) 0 (q_ent mX7_createOperation [.ref o, .int (nI j), .int (nI m), .int (nI d), .int (nI f)]) [] s := by
  show s_W G mX7_createOperation 2 0 0 _ 0 [some (.ref o), some (.int (nI j)), some (.int (nI m)), some (.int (nI d)), some (.int (nI f)), none, none] [] s
  have hs := x_sz hw
  have ho2 := o7_le ho
  refine r_aload_n dX7_createOperation_0 rfl rfl ?_
  refine s_getI dX7_createOperation_1 fX7_61 (layX7 ho) rfl (cl_ops hC) ?_
  refine r_istore dX7_createOperation_4 (by decide) rfl ?_
  refine r_aload_n dX7_createOperation_6 rfl rfl ?_
  refine s_getR dX7_createOperation_7 fX7_16 (layX7 ho) rfl ?_
  refine r_iload_n dX7_createOperation_10 rfl rfl ?_
  refine a_ld dX7_createOperation_11 (X7_stepCounts ho) (by omega) (by decide) (cl_len hC (by omega)) ?_
  refine r_istore dX7_createOperation_12 (by decide) rfl ?_
  refine r_aload_n dX7_createOperation_14 rfl rfl ?_
  refine s_getR dX7_createOperation_15 fX7_20 (layX7 ho) rfl ?_
  refine r_iload_n dX7_createOperation_18 rfl rfl ?_
  refine a_ald dX7_createOperation_19 (X7_routes ho) (by omega) (by decide) ?_
  refine r_iload dX7_createOperation_20 rfl ?_
  refine r_iload dX7_createOperation_22 rfl ?_
  refine a_st dX7_createOperation_24 (X7_routes_row ho (by omega)) (by omega) (by decide) (fun s1 hs1 hf1 => ?_)
  refine r_aload_n dX7_createOperation_25 rfl rfl ?_
  refine s_getR dX7_createOperation_26 fX7_16 (layX7 ho) rfl ?_
  refine r_iload_n dX7_createOperation_29 rfl rfl ?_
  refine r_iload dX7_createOperation_30 rfl ?_
  refine n_const 1 dX7_createOperation_32 (by decide) ?_
  refine n_add dX7_createOperation_33 ?_
  refine a_st dX7_createOperation_34 (X7_stepCounts ho) (by omega) (by decide) (fun s2 hs2 hf2 => ?_)
  refine r_aload_n dX7_createOperation_35 rfl rfl ?_
  refine s_getR dX7_createOperation_36 fX7_23 (layX7 ho) rfl ?_
  refine r_iload dX7_createOperation_39 rfl ?_
  refine r_iload_n dX7_createOperation_41 rfl rfl ?_
  refine a_st dX7_createOperation_42 (X7_jobOf ho) (by omega) (by decide) (fun s3 hs3 hf3 => ?_)
  refine r_aload_n dX7_createOperation_43 rfl rfl ?_
  refine s_getR dX7_createOperation_44 fX7_26 (layX7 ho) rfl ?_
  refine r_iload dX7_createOperation_47 rfl ?_
  refine r_iload_n dX7_createOperation_49 rfl rfl ?_
  refine a_st dX7_createOperation_50 (X7_machineOf ho) (by omega) (by decide) (fun s4 hs4 hf4 => ?_)
  refine r_aload_n dX7_createOperation_51 rfl rfl ?_
  refine s_getR dX7_createOperation_52 fX7_29 (layX7 ho) rfl ?_
  refine r_iload dX7_createOperation_55 rfl ?_
  refine r_iload_n dX7_createOperation_57 rfl rfl ?_
  refine a_st dX7_createOperation_58 (X7_durations ho) (by omega) (by decide) (fun s5 hs5 hf5 => ?_)
  refine r_aload_n dX7_createOperation_59 rfl rfl ?_
  refine s_getR dX7_createOperation_60 fX7_32 (layX7 ho) rfl ?_
  refine r_iload dX7_createOperation_63 rfl ?_
  refine r_iload dX7_createOperation_65 rfl ?_
  refine a_st dX7_createOperation_67 (X7_families ho) (by omega) (by decide) (fun s6 hs6 hf6 => ?_)
  refine r_aload_n dX7_createOperation_68 rfl rfl ?_
  refine s_getR dX7_createOperation_69 fX7_35 (layX7 ho) rfl ?_
  refine r_iload dX7_createOperation_72 rfl ?_
  refine r_iload dX7_createOperation_74 rfl ?_
  refine a_st dX7_createOperation_76 (X7_stepOf ho) (by omega) (by decide) (fun s7 hs7 hf7 => ?_)
  refine r_aload_n dX7_createOperation_77 rfl rfl ?_
  refine r_iload dX7_createOperation_78 rfl ?_
  refine n_const 1 dX7_createOperation_80 (by decide) ?_
  refine n_add dX7_createOperation_81 ?_
  refine a_put dX7_createOperation_82 gX7_61 (layX7 ho) rfl rfl rfl (fun s8 hs8 hf8 => ?_)
  refine r_aload_n dX7_createOperation_85 rfl rfl ?_
  refine s_getR dX7_createOperation_86 fX7_53 (layX7 ho) rfl ?_
  refine r_iload_n dX7_createOperation_89 rfl rfl ?_
  refine r_iload dX7_createOperation_90 rfl ?_
  refine s_V2V mX5_addLast dX7_createOperation_92 okX5_addLast lX7_76 npX5_addLast (layX5 (X7_orders ho)) rfl (by decide) (by decide) (by decide) (Nat.le_of_ble_eq_true rfl) (Nat.le_of_ble_eq_true rfl) (c_addLast (n := X (179 + m)) (X7_orders ho) (by omega) (by omega) (by rw [hf8 _ (by omega), hf7 _ (by omega), hf6 _ (by omega), hf5 _ (by omega), hf4 _ (by omega), hf3 _ (by omega), hf2 _ (by omega), hf1 _ (by omega)]; exact cl_on hC hm)) (fun s9 hq => ?_)
  refine r_iload dX7_createOperation_95 rfl ?_
  refine s_iret dX7_createOperation_97 rfl rfl ?_
  have p1 := s_pt hs1 hf1
  have p2 := s_pt hs2 hf2
  have p3 := s_pt hs3 hf3
  have p4 := s_pt hs4 hf4
  have p5 := s_pt hs5 hf5
  have p6 := s_pt hs6 hf6
  have p7 := s_pt hs7 hf7
  have p8 := s_pt hs8 hf8
  have p9 := hq
  refine ⟨_, rfl, rfl, c_R_addOp hC hw hj hm h1 h2 h3 (fun a9 b9 => by rw [p9, p8, p7, p6, p5, p4, p3, p2, p1]), fun q hq => ?_⟩
  funext b
  rw [p9, if_neg (by omega), if_neg (by omega), hf8 q (by omega), hf7 q (by omega), hf6 q (by omega), hf5 q (by omega), hf4 q (by omega), hf3 q (by omega), hf2 q (by omega), hf1 q (by omega)]
