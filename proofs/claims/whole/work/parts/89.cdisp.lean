section
/-! ===== the class: dispatching ===== -/
set_option maxHeartbeats 1000000 in
theorem c_R_ad {X : x_T} {s s1 : s_T} {o m b : Nat} (hC : c_R X s o) (hw : y_wf X) (hm : m < 4) (h3 : X (179 + m) < 5) (hp : ∀ a9 b9, s1 a9 b9 = if a9 = o + 34 + 1 ∧ b9 = m then nI (X (179 + m) + 1) else if a9 = o + 34 + 3 + m ∧ b9 = X (179 + m) then nI b else s a9 b9) : c_R (va_up (va_up X (183 + 5 * m + X (179 + m)) b) (179 + m) (X (179 + m) + 1)) s1 o := by
  have hX : ∀ k9, (va_up (va_up X (183 + 5 * m + X (179 + m)) b) (179 + m) (X (179 + m) + 1)) k9 = if k9 = 179 + m then X (179 + m) + 1 else if k9 = 183 + 5 * m + X (179 + m) then b else X k9 := fun k9 => rfl
  have hs := y_sz hw
  refine ⟨⟨?_, ?_⟩, fun j9 hj9 => ?_, fun k9 hk9 => ?_, fun f9 g9 hf9 hg9 => ?_, fun m9 hm9 => ?_, fun m9 hm9 => ?_⟩
  · rw [hp, hX]
    (repeat first | rw [if_neg (by omega)] | rw [if_pos (by omega)])
    all_goals first | rfl | (exact cl_jobs hC) | (congr 1; omega)
  · rw [hp, hX]
    (repeat first | rw [if_neg (by omega)] | rw [if_pos (by omega)])
    all_goals first | rfl | (exact cl_ops hC) | (congr 1; omega)
  · rw [hX] at hj9
    (repeat first | rw [if_neg (by omega)] at hj9 | rw [if_pos (by omega)] at hj9)
    have hjb : j9 < X 0 → X (17 + j9) ≤ 4 := fun q => (y_jb hw q).2.2.2.2.2
    refine ⟨?_, ?_, ?_, ?_, fun i9 hi9 => ?_⟩
    · rw [hp, hX]
      (repeat first | rw [if_neg (by omega)] | rw [if_pos (by omega)])
      all_goals first | rfl | (exact cl_rel hC (by omega)) | (congr 1; omega)
    · rw [hp, hX]
      (repeat first | rw [if_neg (by omega)] | rw [if_pos (by omega)])
      all_goals first | rfl | (exact cl_due hC (by omega)) | (congr 1; omega)
    · rw [hp, hX]
      (repeat first | rw [if_neg (by omega)] | rw [if_pos (by omega)])
      all_goals first | rfl | (exact cl_wt hC (by omega)) | (congr 1; omega)
    · rw [hp, hX]
      (repeat first | rw [if_neg (by omega)] | rw [if_pos (by omega)])
      all_goals first | rfl | (exact cl_len hC (by omega)) | (congr 1; omega)
    · rw [hX] at hi9
      (repeat first | rw [if_neg (by omega)] at hi9 | rw [if_pos (by omega)] at hi9)
      rw [hp, hX]
      (repeat first | rw [if_neg (by omega)] | rw [if_pos (by omega)])
      all_goals first | rfl | (exact cl_rt hC (by omega) (by omega)) | (congr 1; omega)
  · rw [hX] at hk9
    (repeat first | rw [if_neg (by omega)] at hk9 | rw [if_pos (by omega)] at hk9)
    refine ⟨?_, ?_, ?_, ?_, ?_⟩
    · rw [hp, hX]
      (repeat first | rw [if_neg (by omega)] | rw [if_pos (by omega)])
      all_goals first | rfl | (exact cl_job hC (by omega)) | (congr 1; omega)
    · rw [hp, hX]
      (repeat first | rw [if_neg (by omega)] | rw [if_pos (by omega)])
      all_goals first | rfl | (exact cl_mc hC (by omega)) | (congr 1; omega)
    · rw [hp, hX]
      (repeat first | rw [if_neg (by omega)] | rw [if_pos (by omega)])
      all_goals first | rfl | (exact cl_du hC (by omega)) | (congr 1; omega)
    · rw [hp, hX]
      (repeat first | rw [if_neg (by omega)] | rw [if_pos (by omega)])
      all_goals first | rfl | (exact cl_fa hC (by omega)) | (congr 1; omega)
    · rw [hp, hX]
      (repeat first | rw [if_neg (by omega)] | rw [if_pos (by omega)])
      all_goals first | rfl | (exact cl_st hC (by omega)) | (congr 1; omega)
  · rw [hp, hX]
    (repeat first | rw [if_neg (by omega)] | rw [if_pos (by omega)])
    all_goals first | rfl | (exact cl_su hC (by omega) (by omega)) | (congr 1; omega)
  · have hmn := y_mn hw hm9
    refine ⟨?_, fun i9 hi9 => ?_⟩
    · rw [hp, hX]
      (repeat first | rw [if_neg (by omega)] | rw [if_pos (by omega)])
      all_goals first | rfl | (exact cl_bn hC (by omega)) | (congr 1; omega)
    · rw [hX] at hi9
      (repeat first | rw [if_neg (by omega)] at hi9 | rw [if_pos (by omega)] at hi9)
      refine ⟨?_, ?_⟩
      · rw [hp, hX]
        (repeat first | rw [if_neg (by omega)] | rw [if_pos (by omega)])
        all_goals first | rfl | (exact cl_bf hC (by omega) (by omega)) | (congr 1; omega)
      · rw [hp, hX, hX]
        (repeat first | rw [if_neg (by omega)] | rw [if_pos (by omega)])
        all_goals first | rfl | (exact cl_bb hC (by omega) (by omega)) | (congr 1; omega)
  · have hmn := y_mn hw hm9
    refine ⟨?_, fun p9 hp9 => ?_⟩
    · rw [hp, hX]
      by_cases e1 : m9 = m
      · (repeat first | rw [if_neg (by omega)] | rw [if_pos (by omega)])
        all_goals first | rfl | (exact cl_on hC (by omega)) | (congr 1; omega)
      · (repeat first | rw [if_neg (by omega)] | rw [if_pos (by omega)])
        all_goals first | rfl | (exact cl_on hC (by omega)) | (congr 1; omega)
    · rw [hX] at hp9
      by_cases e9 : m9 = m
      · subst e9
        (repeat first | rw [if_neg (by omega)] at hp9 | rw [if_pos (by omega)] at hp9)
        rw [hp, hX]
        by_cases e1 : p9 = X (179 + m9)
        · (repeat first | rw [if_neg (by omega)] | rw [if_pos (by omega)])
          all_goals first | rfl | (exact cl_ord hC (by omega) (by omega)) | (congr 1; omega)
        · (repeat first | rw [if_neg (by omega)] | rw [if_pos (by omega)])
          all_goals first | rfl | (exact cl_ord hC (by omega) (by omega)) | (congr 1; omega)
      · (repeat first | rw [if_neg (by omega)] at hp9 | rw [if_pos (by omega)] at hp9)
        rw [hp, hX]
        by_cases e1 : p9 = X (179 + m9)
        · (repeat first | rw [if_neg (by omega)] | rw [if_pos (by omega)])
          all_goals first | rfl | (exact cl_ord hC (by omega) (by omega)) | (congr 1; omega)
        · (repeat first | rw [if_neg (by omega)] | rw [if_pos (by omega)])
          all_goals first | rfl | (exact cl_ord hC (by omega) (by omega)) | (congr 1; omega)
set_option maxHeartbeats 1000000 in
theorem c_R_on {X : x_T} {s s1 : s_T} {o m v : Nat} (hC : c_R X s o) (hw : y_wf X) (hm : m < 4) (h3 : v ≤ X (179 + m)) (hp : ∀ a9 b9, s1 a9 b9 = if a9 = o + 35 ∧ b9 = m then nI v else s a9 b9) : c_R (va_up X (179 + m) v) s1 o := by
  have hX : ∀ k9, (va_up X (179 + m) v) k9 = if k9 = 179 + m then v else X k9 := fun k9 => rfl
  have hs := y_sz hw
  refine ⟨⟨?_, ?_⟩, fun j9 hj9 => ?_, fun k9 hk9 => ?_, fun f9 g9 hf9 hg9 => ?_, fun m9 hm9 => ?_, fun m9 hm9 => ?_⟩
  · rw [hp, hX]
    (repeat first | rw [if_neg (by omega)] | rw [if_pos (by omega)])
    all_goals first | rfl | (exact cl_jobs hC) | (congr 1; omega)
  · rw [hp, hX]
    (repeat first | rw [if_neg (by omega)] | rw [if_pos (by omega)])
    all_goals first | rfl | (exact cl_ops hC) | (congr 1; omega)
  · rw [hX] at hj9
    (repeat first | rw [if_neg (by omega)] at hj9 | rw [if_pos (by omega)] at hj9)
    have hjb : j9 < X 0 → X (17 + j9) ≤ 4 := fun q => (y_jb hw q).2.2.2.2.2
    refine ⟨?_, ?_, ?_, ?_, fun i9 hi9 => ?_⟩
    · rw [hp, hX]
      (repeat first | rw [if_neg (by omega)] | rw [if_pos (by omega)])
      all_goals first | rfl | (exact cl_rel hC (by omega)) | (congr 1; omega)
    · rw [hp, hX]
      (repeat first | rw [if_neg (by omega)] | rw [if_pos (by omega)])
      all_goals first | rfl | (exact cl_due hC (by omega)) | (congr 1; omega)
    · rw [hp, hX]
      (repeat first | rw [if_neg (by omega)] | rw [if_pos (by omega)])
      all_goals first | rfl | (exact cl_wt hC (by omega)) | (congr 1; omega)
    · rw [hp, hX]
      (repeat first | rw [if_neg (by omega)] | rw [if_pos (by omega)])
      all_goals first | rfl | (exact cl_len hC (by omega)) | (congr 1; omega)
    · rw [hX] at hi9
      (repeat first | rw [if_neg (by omega)] at hi9 | rw [if_pos (by omega)] at hi9)
      rw [hp, hX]
      (repeat first | rw [if_neg (by omega)] | rw [if_pos (by omega)])
      all_goals first | rfl | (exact cl_rt hC (by omega) (by omega)) | (congr 1; omega)
  · rw [hX] at hk9
    (repeat first | rw [if_neg (by omega)] at hk9 | rw [if_pos (by omega)] at hk9)
    refine ⟨?_, ?_, ?_, ?_, ?_⟩
    · rw [hp, hX]
      (repeat first | rw [if_neg (by omega)] | rw [if_pos (by omega)])
      all_goals first | rfl | (exact cl_job hC (by omega)) | (congr 1; omega)
    · rw [hp, hX]
      (repeat first | rw [if_neg (by omega)] | rw [if_pos (by omega)])
      all_goals first | rfl | (exact cl_mc hC (by omega)) | (congr 1; omega)
    · rw [hp, hX]
      (repeat first | rw [if_neg (by omega)] | rw [if_pos (by omega)])
      all_goals first | rfl | (exact cl_du hC (by omega)) | (congr 1; omega)
    · rw [hp, hX]
      (repeat first | rw [if_neg (by omega)] | rw [if_pos (by omega)])
      all_goals first | rfl | (exact cl_fa hC (by omega)) | (congr 1; omega)
    · rw [hp, hX]
      (repeat first | rw [if_neg (by omega)] | rw [if_pos (by omega)])
      all_goals first | rfl | (exact cl_st hC (by omega)) | (congr 1; omega)
  · rw [hp, hX]
    (repeat first | rw [if_neg (by omega)] | rw [if_pos (by omega)])
    all_goals first | rfl | (exact cl_su hC (by omega) (by omega)) | (congr 1; omega)
  · have hmn := y_mn hw hm9
    refine ⟨?_, fun i9 hi9 => ?_⟩
    · rw [hp, hX]
      (repeat first | rw [if_neg (by omega)] | rw [if_pos (by omega)])
      all_goals first | rfl | (exact cl_bn hC (by omega)) | (congr 1; omega)
    · rw [hX] at hi9
      (repeat first | rw [if_neg (by omega)] at hi9 | rw [if_pos (by omega)] at hi9)
      refine ⟨?_, ?_⟩
      · rw [hp, hX]
        (repeat first | rw [if_neg (by omega)] | rw [if_pos (by omega)])
        all_goals first | rfl | (exact cl_bf hC (by omega) (by omega)) | (congr 1; omega)
      · rw [hp, hX, hX]
        (repeat first | rw [if_neg (by omega)] | rw [if_pos (by omega)])
        all_goals first | rfl | (exact cl_bb hC (by omega) (by omega)) | (congr 1; omega)
  · have hmn := y_mn hw hm9
    refine ⟨?_, fun p9 hp9 => ?_⟩
    · rw [hp, hX]
      by_cases e1 : m9 = m
      · (repeat first | rw [if_neg (by omega)] | rw [if_pos (by omega)])
        all_goals first | rfl | (exact cl_on hC (by omega)) | (congr 1; omega)
      · (repeat first | rw [if_neg (by omega)] | rw [if_pos (by omega)])
        all_goals first | rfl | (exact cl_on hC (by omega)) | (congr 1; omega)
    · rw [hX] at hp9
      by_cases e9 : m9 = m
      · subst e9
        (repeat first | rw [if_neg (by omega)] at hp9 | rw [if_pos (by omega)] at hp9)
        rw [hp, hX]
        (repeat first | rw [if_neg (by omega)] | rw [if_pos (by omega)])
        all_goals first | rfl | (exact cl_ord hC (by omega) (by omega)) | (congr 1; omega)
      · (repeat first | rw [if_neg (by omega)] at hp9 | rw [if_pos (by omega)] at hp9)
        rw [hp, hX]
        (repeat first | rw [if_neg (by omega)] | rw [if_pos (by omega)])
        all_goals first | rfl | (exact cl_ord hC (by omega) (by omega)) | (congr 1; omega)
set_option maxRecDepth 20000 in
set_option maxHeartbeats 1000000 in
theorem d_startOf {G : q_G} {s : s_T} {X : x_T} {g fx rk : Nat → Nat} {c k T o : Nat} (ho : isX7 o) (hC : c_R X s o) (h : y_iv X g fx rk c) (hk : y_cd X g k) (hT : T ≤ 999) (hE : ∀ q, q < X 1 → y_K X g q = true → s 145 q = nI (fx q + X (82 + q))) : s_W G mX3_startOf 2 0 0 (c_I (fun y9 s1 => s1 = s ∧ y9 = nI (x_cs X fx T k))) 0 (q_ent mX3_startOf [.ref 144, .ref o, .int (nI k), .int (nI T)]) [] s := by
  show s_W G mX3_startOf 2 0 0 _ 0 [some (.ref 144), some (.ref o), some (.int (nI k)), some (.int (nI T)), none, none, none, none] [] s
  have hw := h.1.1
  have hk1 := hk.1
  have hk2 := y_op hw hk.1
  have hmn := y_mn hw hk2.2.2.2.2.2.2.1
  have hcr := y_cr h hk
  have hc20 := y_c h
  have hO := c_R_O hC
  obtain ⟨a, ha, ha2, hae⟩ : ∃ a, (0 < X (122 + k) → s 145 (X (22 + 4 * X (42 + k) + (X (122 + k) - 1))) = nI a) ∧ a < 1000000 ∧ (if X (122 + k) = 0 then X (2 + X (42 + k)) else a) = (if X (122 + k) = 0 then X (2 + X (42 + k)) else fx (x_pv X k) + X (82 + x_pv X k)) := by
    by_cases e : X (122 + k) = 0
    · exact ⟨0, fun q => absurd q (by omega), by omega, by rw [if_pos e, if_pos e]⟩
    · have h4 := y_pv hw hk (by omega)
      have h5 := (h.2.1 _ h4.1 h4.2.1).2.1
      exact ⟨fx (x_pv X k) + X (82 + x_pv X k), fun _ => hE _ h4.1 h4.2.1, by omega, rfl⟩
  refine r_aload_n dX3_startOf_0 rfl rfl ?_
  refine s_getR dX3_startOf_1 fX3_39 (layX7 ho) rfl ?_
  refine r_iload_n dX3_startOf_4 rfl rfl ?_
  refine a_ld dX3_startOf_5 (X7_machineOf ho) (by omega) (by decide) (cl_mc hC (by omega)) ?_
  refine r_istore dX3_startOf_6 (by decide) rfl ?_
  refine r_aload_n dX3_startOf_8 rfl rfl ?_
  refine s_getR dX3_startOf_9 fX3_35 (layX7 ho) rfl ?_
  refine s_getR dX3_startOf_12 fX3_57 (layX5 (X7_orders ho)) rfl ?_
  refine r_iload dX3_startOf_15 rfl ?_
  refine a_ld dX3_startOf_17 (X5_sizes (X7_orders ho)) (by omega) (by decide) (co_on hO (by omega)) ?_
  refine r_istore dX3_startOf_18 (by decide) rfl ?_
  refine r_iload dX3_startOf_20 rfl ?_
  refine n_ifle (tgt := 43) dX3_startOf_22 (by decide) (by omega) (fun c22 => ?_) (fun c22 => ?_)
  · have hls : x_ls X k = none := by unfold x_ls; rw [if_pos (by omega)]
    refine r_iconst (v := -1) dX3_startOf_43 (by decide) ?_
    refine r_istore dX3_startOf_44 (by decide) rfl ?_
    refine r_aload_n dX3_startOf_46 rfl rfl ?_
    refine r_iload_n dX3_startOf_47 rfl rfl ?_
    refine r_iload dX3_startOf_48 rfl ?_
    refine r_aload_n dX3_startOf_50 rfl rfl ?_
    refine s_getR dX3_startOf_51 fX3_9 lysX3 rfl ?_
    refine s_V3I mX7_readyTime dX3_startOf_54 okX7_readyTime lX3_90 npX7_readyTime (layX7 ho) rfl (by decide) (by decide) (by decide) (Nat.le_of_ble_eq_true rfl) (Nat.le_of_ble_eq_true rfl) (d_readyTime2 (a := a) (b := 0) (bf := none) ho hC hw hk.1 rfl ha (fun q z => by cases z) ha2 (by omega)) (fun x s1 hq => ?_)
    obtain ⟨rfl, rfl⟩ := hq
    rw [show max (if X (122 + k) = 0 then X (2 + X (42 + k)) else a) _ = x_cr X fx k by unfold x_cr; rw [hae, hls]; rfl]
    refine r_istore dX3_startOf_57 (by decide) rfl ?_
    refine r_aload_n dX3_startOf_59 rfl rfl ?_
    refine r_iload_n dX3_startOf_60 rfl rfl ?_
    refine r_iload dX3_startOf_61 rfl ?_
    refine r_iload_n dX3_startOf_63 rfl rfl ?_
    refine r_mmax dX3_startOf_64 kwM_X3_max kwM_static_max kwM_ini kwM_code_max (by decide) (Nat.le_of_ble_eq_true rfl) ?_
    rw [nI_max (by omega) (by omega)]
    refine s_V2I mX7_startFrom dX3_startOf_67 okX7_startFrom lX3_100 npX7_startFrom (layX7 ho) rfl (by decide) (by decide) (by decide) (Nat.le_of_ble_eq_true rfl) (Nat.le_of_ble_eq_true rfl) (d_startFrom ho hC hw hk.1 (by omega)) (fun x s1 hq => ?_)
    obtain ⟨rfl, rfl⟩ := hq
    refine s_iret dX3_startOf_70 rfl rfl ?_
    exact ⟨_, rfl, rfl, rfl⟩
  · have hls : x_ls X k = some (X (183 + 5 * X (62 + k) + (X (179 + X (62 + k)) - 1))) := by unfold x_ls; rw [if_neg (by omega)]
    have hls2 := y_ls h hk.1 hls
    have hls3 := (h.2.1 _ hls2.1 hls2.2).2.1
    refine r_aload_n dX3_startOf_25 rfl rfl ?_
    refine s_getR dX3_startOf_26 fX3_35 (layX7 ho) rfl ?_
    refine s_getR dX3_startOf_29 fX3_70 (layX5 (X7_orders ho)) rfl ?_
    refine r_iload dX3_startOf_32 rfl ?_
    refine a_ald dX3_startOf_34 (X5_rows (X7_orders ho)) (by omega) (by decide) ?_
    refine r_iload dX3_startOf_35 rfl ?_
    refine n_const 1 dX3_startOf_37 (by decide) ?_
    refine n_sub dX3_startOf_38 (by omega) ?_
    refine a_ld dX3_startOf_39 (X5_rows_row (X7_orders ho) (by omega)) (by omega) (by decide) (co_ord hO (by omega) (by omega)) ?_
    refine r_goto (tgt := 44) dX3_startOf_40 (by decide) ?_
    refine r_istore dX3_startOf_44 (by decide) rfl ?_
    refine r_aload_n dX3_startOf_46 rfl rfl ?_
    refine r_iload_n dX3_startOf_47 rfl rfl ?_
    refine r_iload dX3_startOf_48 rfl ?_
    refine r_aload_n dX3_startOf_50 rfl rfl ?_
    refine s_getR dX3_startOf_51 fX3_9 lysX3 rfl ?_
    refine s_V3I mX7_readyTime dX3_startOf_54 okX7_readyTime lX3_90 npX7_readyTime (layX7 ho) rfl (by decide) (by decide) (by decide) (Nat.le_of_ble_eq_true rfl) (Nat.le_of_ble_eq_true rfl) (d_readyTime2 (a := a) (b := (fx (X (183 + 5 * X (62 + k) + (X (179 + X (62 + k)) - 1))) + X (82 + (X (183 + 5 * X (62 + k) + (X (179 + X (62 + k)) - 1)))))) (bf := (some (X (183 + 5 * X (62 + k) + (X (179 + X (62 + k)) - 1))))) ho hC hw hk.1 rfl ha (fun q z => by cases z; exact ⟨hls2.1, hE _ hls2.1 hls2.2⟩) ha2 (by omega)) (fun x s1 hq => ?_)
    obtain ⟨rfl, rfl⟩ := hq
    rw [show max (if X (122 + k) = 0 then X (2 + X (42 + k)) else a) _ = x_cr X fx k by unfold x_cr; rw [hae, hls]; rfl]
    refine r_istore dX3_startOf_57 (by decide) rfl ?_
    refine r_aload_n dX3_startOf_59 rfl rfl ?_
    refine r_iload_n dX3_startOf_60 rfl rfl ?_
    refine r_iload dX3_startOf_61 rfl ?_
    refine r_iload_n dX3_startOf_63 rfl rfl ?_
    refine r_mmax dX3_startOf_64 kwM_X3_max kwM_static_max kwM_ini kwM_code_max (by decide) (Nat.le_of_ble_eq_true rfl) ?_
    rw [nI_max (by omega) (by omega)]
    refine s_V2I mX7_startFrom dX3_startOf_67 okX7_startFrom lX3_100 npX7_startFrom (layX7 ho) rfl (by decide) (by decide) (by decide) (Nat.le_of_ble_eq_true rfl) (Nat.le_of_ble_eq_true rfl) (d_startFrom ho hC hw hk.1 (by omega)) (fun x s1 hq => ?_)
    obtain ⟨rfl, rfl⟩ := hq
    refine s_iret dX3_startOf_70 rfl rfl ?_
    exact ⟨_, rfl, rfl, rfl⟩
set_option maxRecDepth 20000 in
set_option maxHeartbeats 1000000 in
theorem d_workFrom {G : q_G} {s : s_T} {X : x_T} {o k : Nat} (ho : isX7 o) (hC : c_R X s o) (hw : y_wf X) (hk : k < X 1) : s_W G mX3_workFrom 1 0 0 (c_I (fun y9 s1 => s1 = s ∧ y9 = nI (x_rs X k))) 0 (q_ent mX3_workFrom [.ref o, .int (nI k)]) [] s := by
  show s_W G mX3_workFrom 1 0 0 _ 0 [some (.ref o), some (.int (nI k)), none, none, none] [] s
  have hk2 := y_op hw hk
  have lp : ∀ f e, e ≤ X (17 + X (42 + k)) - X (122 + k) → X (17 + X (42 + k)) - X (122 + k) < e + f → s_W G mX3_workFrom 1 0 0 (c_I (fun y9 s1 => s1 = s ∧ y9 = nI (x_rs X k))) 17 [some (.ref o), some (.int (nI k)), some (.int (nI (X (42 + k)))), some (.int (nI (x_wk X (X (42 + k)) (X (122 + k)) e))), some (.int (nI (X (122 + k) + e)))] [] s := by
    intro f
    induction f with
    | zero =>
      intro e he hme
      exact absurd hme (by omega)
    | succ f ih =>
      intro e he hme
      refine r_iload dX3_workFrom_17 rfl ?_
      refine r_aload_n dX3_workFrom_19 rfl rfl ?_
      refine s_getR dX3_workFrom_20 fX3_77 (layX7 ho) rfl ?_
      refine r_iload_n dX3_workFrom_23 rfl rfl ?_
      refine a_ld dX3_workFrom_24 (X7_stepCounts ho) (by omega) (by decide) (cl_len hC (by omega)) ?_
      refine n_cge (tgt := 51) dX3_workFrom_25 (by decide) (by omega) (by omega) (fun c25 => ?_) (fun c25 => ?_)
      · refine r_iload_n dX3_workFrom_51 rfl rfl ?_
        refine s_iret dX3_workFrom_52 rfl rfl ?_
        have e9 : e = X (17 + X (42 + k)) - X (122 + k) := by omega
        subst e9
        exact ⟨_, rfl, rfl, rfl⟩
      · have hrt := y_rt hw hk2.2.2.1 (i := X (122 + k) + e) (by omega)
        refine r_iload_n dX3_workFrom_28 rfl rfl ?_
        refine r_aload_n dX3_workFrom_29 rfl rfl ?_
        refine s_getR dX3_workFrom_30 fX3_51 (layX7 ho) rfl ?_
        refine r_aload_n dX3_workFrom_33 rfl rfl ?_
        refine s_getR dX3_workFrom_34 fX3_80 (layX7 ho) rfl ?_
        refine r_iload_n dX3_workFrom_37 rfl rfl ?_
        refine a_ald dX3_workFrom_38 (X7_routes ho) (by omega) (by decide) ?_
        refine r_iload dX3_workFrom_39 rfl ?_
        refine a_ld dX3_workFrom_41 (X7_routes_row ho (by omega)) (by omega) (by decide) (cl_rt hC (by omega) (by omega)) ?_
        refine a_ld dX3_workFrom_42 (X7_durations ho) (by omega) (by decide) (cl_du hC (by omega)) ?_
        refine n_add dX3_workFrom_43 ?_
        refine r_istore_n dX3_workFrom_44 rfl (by decide) rfl ?_
        refine n_inc dX3_workFrom_45 rfl (n_i1 _) (by decide) rfl ?_
        refine r_goto (tgt := 17) dX3_workFrom_48 (by decide) ?_
        exact ih (e + 1) (by omega) (by omega)
  refine r_aload_n dX3_workFrom_0 rfl rfl ?_
  refine s_getR dX3_workFrom_1 fX3_54 (layX7 ho) rfl ?_
  refine r_iload_n dX3_workFrom_4 rfl rfl ?_
  refine a_ld dX3_workFrom_5 (X7_jobOf ho) (by omega) (by decide) (cl_job hC (by omega)) ?_
  refine r_istore_n dX3_workFrom_6 rfl (by decide) rfl ?_
  refine n_const 0 dX3_workFrom_7 (by decide) ?_
  refine r_istore_n dX3_workFrom_8 rfl (by decide) rfl ?_
  refine r_aload_n dX3_workFrom_9 rfl rfl ?_
  refine s_getR dX3_workFrom_10 fX3_110 (layX7 ho) rfl ?_
  refine r_iload_n dX3_workFrom_13 rfl rfl ?_
  refine a_ld dX3_workFrom_14 (X7_stepOf ho) (by omega) (by decide) (cl_st hC (by omega)) ?_
  refine r_istore dX3_workFrom_15 (by decide) rfl ?_
  exact lp (X (17 + X (42 + k)) - X (122 + k) + 1) 0 (by omega) (by omega)
def c_rkv (X : x_T) (rl k : Nat) : Int32 := if rl = 0 then nI (X (82 + k)) else if rl = 1 then 0 - nI (x_rs X k) else if rl = 2 then nI (X (7 + X (42 + k))) else nI 0
theorem c_rkv_le {X : x_T} {rl a b : Nat} (hw : y_wf X) (ha : a < X 1) (hb : b < X 1) (hr : rl ≤ 3) : c_rkv X rl b ≤ c_rkv X rl a ↔ x_rv X rl a b = false := by
  have ha2 := y_op hw ha
  have hb2 := y_op hw hb
  have ha3 := y_jb hw ha2.2.2.1
  have hb3 := y_jb hw hb2.2.2.1
  have ra := (x_rs_tl hw ha).2
  have rb := (x_rs_tl hw hb).2
  rcases (show rl = 0 ∨ rl = 1 ∨ rl = 2 ∨ rl = 3 by omega) with rfl | rfl | rfl | rfl
  · show nI (X (82 + b)) ≤ nI (X (82 + a)) ↔ decide (X (82 + a) < X (82 + b)) = false
    rw [nI_leI (by omega) (by omega), decide_eq_false_iff_not]; omega
  · show 0 - nI (x_rs X b) ≤ 0 - nI (x_rs X a) ↔ decide (x_rs X b < x_rs X a) = false
    rw [decide_eq_false_iff_not, Int32.le_iff_toInt_le, ← nI_0, nI_sub (by omega) (by omega), nI_sub (by omega) (by omega)]; omega
  · show nI (X (7 + X (42 + b))) ≤ nI (X (7 + X (42 + a))) ↔ decide (X (7 + X (42 + a)) < X (7 + X (42 + b))) = false
    rw [nI_leI (by omega) (by omega), decide_eq_false_iff_not]; omega
  · exact ⟨fun _ => rfl, fun _ => by show nI 0 ≤ nI 0; rw [nI_leI (by omega) (by omega)]; omega⟩
theorem x_btd_1 {X : x_T} {fx : Nat → Nat} {T rl k b : Nat} (h : x_cs X fx T k < x_cs X fx T b) : x_btd X fx T rl k b = true := by unfold x_btd; rw [decide_eq_true h]; rfl
theorem x_btd_2 {X : x_T} {fx : Nat → Nat} {T rl k b : Nat} (h : x_cs X fx T k = x_cs X fx T b) (h2 : x_rv X rl k b = true) : x_btd X fx T rl k b = true := by unfold x_btd; rw [decide_eq_true h, h2, Bool.and_self, Bool.or_true]
theorem x_btd_3 {X : x_T} {fx : Nat → Nat} {T rl k b : Nat} (h : x_cs X fx T b ≤ x_cs X fx T k) (h1 : x_cs X fx T k ≠ x_cs X fx T b) : ¬ x_btd X fx T rl k b = true := by unfold x_btd; rw [decide_eq_false (by omega), decide_eq_false h1]; simp
theorem x_btd_4 {X : x_T} {fx : Nat → Nat} {T rl k b : Nat} (h : x_cs X fx T b ≤ x_cs X fx T k) (h2 : x_rv X rl k b = false) : ¬ x_btd X fx T rl k b = true := by unfold x_btd; rw [decide_eq_false (by omega), h2]; simp
set_option maxRecDepth 20000 in
set_option maxHeartbeats 1000000 in
theorem d_rank {G : q_G} {s : s_T} {X : x_T} {o k rl : Nat} (ho : isX7 o) (hC : c_R X s o) (hw : y_wf X) (hk : k < X 1) (hr : rl ≤ 3) : s_W G mX3_rank 2 0 0 (c_I (fun y9 s1 => s1 = s ∧ y9 = c_rkv X rl k)) 0 (q_ent mX3_rank [.ref o, .int (nI k), .int (nI rl)]) [] s := by
  show s_W G mX3_rank 2 0 0 _ 0 [some (.ref o), some (.int (nI k)), some (.int (nI rl))] [] s
  have hk2 := y_op hw hk
  rcases (show rl = 0 ∨ rl = 1 ∨ rl = 2 ∨ rl = 3 by omega) with rfl | rfl | rfl | rfl
  · refine r_iload_n dX3_rank_0 rfl rfl ?_
    refine r_tabIn (tgt := 28) dX3_rank_1 (by decide) (by decide) rfl (by decide) ?_
    refine r_aload_n dX3_rank_28 rfl rfl ?_
    refine s_getR dX3_rank_29 fX3_51 (layX7 ho) rfl ?_
    refine r_iload_n dX3_rank_32 rfl rfl ?_
    refine a_ld dX3_rank_33 (X7_durations ho) (by omega) (by decide) (cl_du hC (by omega)) ?_
    refine s_iret dX3_rank_34 rfl rfl ?_
    exact ⟨_, rfl, rfl, rfl⟩
  · refine r_iload_n dX3_rank_0 rfl rfl ?_
    refine r_tabIn (tgt := 35) dX3_rank_1 (by decide) (by decide) rfl (by decide) ?_
    refine r_aload_n dX3_rank_35 rfl rfl ?_
    refine r_iload_n dX3_rank_36 rfl rfl ?_
    refine s_S2I mX3_workFrom dX3_rank_37 okX3_workFrom lX3_103 npX3_workFrom (by decide) (by decide) (by decide) (Nat.le_of_ble_eq_true rfl) (Nat.le_of_ble_eq_true rfl) (d_workFrom ho hC hw hk) (fun x s1 hq => ?_)
    obtain ⟨rfl, rfl⟩ := hq
    refine r_ineg dX3_rank_40 rfl ?_
    refine s_iret dX3_rank_41 rfl rfl ?_
    exact ⟨_, rfl, rfl, rfl⟩
  · refine r_iload_n dX3_rank_0 rfl rfl ?_
    refine r_tabIn (tgt := 42) dX3_rank_1 (by decide) (by decide) rfl (by decide) ?_
    refine r_aload_n dX3_rank_42 rfl rfl ?_
    refine s_getR dX3_rank_43 fX3_107 (layX7 ho) rfl ?_
    refine r_aload_n dX3_rank_46 rfl rfl ?_
    refine s_getR dX3_rank_47 fX3_54 (layX7 ho) rfl ?_
    refine r_iload_n dX3_rank_50 rfl rfl ?_
    refine a_ld dX3_rank_51 (X7_jobOf ho) (by omega) (by decide) (cl_job hC (by omega)) ?_
    refine a_ald dX3_rank_52 (X7_jobData ho) (by omega) (by decide) ?_
    refine n_const 1 dX3_rank_53 (by decide) ?_
    refine a_ld dX3_rank_54 (X7_jobData_row ho (by omega)) (by omega) (by decide) (cl_due hC (by omega)) ?_
    refine s_iret dX3_rank_55 rfl rfl ?_
    exact ⟨_, rfl, rfl, rfl⟩
  · refine r_iload_n dX3_rank_0 rfl rfl ?_
    refine r_tabOut (tgt := 56) dX3_rank_1 (by decide) (by decide) ?_
    refine n_const 0 dX3_rank_56 (by decide) ?_
    refine s_iret dX3_rank_57 rfl rfl ?_
    exact ⟨_, rfl, rfl, rfl⟩
set_option maxRecDepth 20000 in
set_option maxHeartbeats 1000000 in
theorem d_choose {G : q_G} {s : s_T} {X : x_T} {g fx rk : Nat → Nat} {c T rl o : Nat} (ho : isX7 o) (hC : c_R X s o) (h : y_iv X g fx rk c) (hT : T ≤ 999) (hr : rl ≤ 3) (hE : ∀ q, q < X 1 → y_K X g q = true → s 145 q = nI (fx q + X (82 + q))) (hg : ∀ j, j < 5 → s 146 j = nI (g j)) : s_W G mX3_choose 3 0 0 (c_V (fun s1 => s1 144 2 = oI (x_cz X g fx T rl (X 0)) ∧ (∀ b, x_cz X g fx T rl (X 0) = some b → s1 144 3 = nI (x_cs X fx T b)) ∧ s_fr 144 145 s s1)) 0 (q_ent mX3_choose [.ref 144, .ref o, .int (nI T), .int (nI rl)]) [] s := by
  show s_W G mX3_choose 3 0 0 _ 0 [some (.ref 144), some (.ref o), some (.int (nI T)), some (.int (nI rl)), none, none, none, none] [] s
  have hw := h.1.1
  have hs := y_sz hw
  have ho2 := o7_le ho
  have hc20 := y_c h
  have lp : ∀ f j (L5 : Option Value) (L6 : Option Value) (L7 : Option Value) s1, s1 144 2 = oI (x_cz X g fx T rl j) → (∀ b, x_cz X g fx T rl j = some b → s1 144 3 = nI (x_cs X fx T b)) → s_fr 144 145 s s1 → j ≤ X 0 → X 0 < j + f → s_W G mX3_choose 3 0 0 (c_V (fun s1 => s1 144 2 = oI (x_cz X g fx T rl (X 0)) ∧ (∀ b, x_cz X g fx T rl (X 0) = some b → s1 144 3 = nI (x_cs X fx T b)) ∧ s_fr 144 145 s s1)) 8 [some (.ref 144), some (.ref o), some (.int (nI T)), some (.int (nI rl)), some (.int (nI j)), L5, L6, L7] [] s1 := by
    intro f
    induction f with
    | zero =>
      intro j L5 L6 L7 s1 h2 h3 hf hj hme
      exact absurd hme (by omega)
    | succ f ih =>
      intro j L5 L6 L7 s1 h2 h3 hf hj hme
      have hC1 := c_R_fr hC hf (Or.inl (by omega)) hs.1
      cases hbq : x_cz X g fx T rl j with
      | none =>
        have h2b : s1 144 2 = -1 := by rw [h2, hbq]; rfl
        replace h2 : s1 144 2 = oI (x_cz X g fx T rl j) := h2
        refine r_iload dX3_choose_8 rfl ?_
        refine r_aload_n dX3_choose_10 rfl rfl ?_
        refine s_getI dX3_choose_11 fX3_74 (layX7 ho) rfl (cl_jobs hC1) ?_
        refine n_cge (tgt := 144) dX3_choose_14 (by decide) (by omega) (by omega) (fun c14 => ?_) (fun c14 => ?_)
        · refine s_vret dX3_choose_144 rfl ?_
          have e9 : j = X 0 := by omega
          subst e9
          exact ⟨rfl, h2, h3, hf⟩
        · have hjb := y_jb hw c14
          have hgj := h.1.2.1 j c14
          refine r_aload_n dX3_choose_17 rfl rfl ?_
          refine s_getR dX3_choose_18 fX3_15 lysX3 rfl ?_
          refine r_iload dX3_choose_21 rfl ?_
          refine a_ld dX3_choose_23 rfl (by omega) (by decide) (show s1 146 j = nI (g j) by rw [hf 146 (by omega)]; exact hg _ (by omega)) ?_
          refine r_aload_n dX3_choose_24 rfl rfl ?_
          refine s_getR dX3_choose_25 fX3_77 (layX7 ho) rfl ?_
          refine r_iload dX3_choose_28 rfl ?_
          refine a_ld dX3_choose_30 (X7_stepCounts ho) (by omega) (by decide) (cl_len hC1 (by omega)) ?_
          refine n_cge (tgt := 138) dX3_choose_31 (by decide) (by omega) (by omega) (fun c31 => ?_) (fun c31 => ?_)
          · refine n_inc dX3_choose_138 rfl (n_i1 _) (by decide) rfl ?_
            refine r_goto (tgt := 8) dX3_choose_141 (by decide) ?_
            first
              | (have e9 := x_cz_no (X := X) (g := g) (fx := fx) (T := T) (rl := rl) (n := j) (by omega)
                 refine ih (j + 1) _ _ _ s1 (by rw [e9]; exact h2) (by rw [e9]; exact h3) hf (by omega) (by omega))
              | (have e9 := x_cz_n (X := X) (g := g) (fx := fx) (T := T) (rl := rl) (n := j) (by omega) hbq
                 refine ih (j + 1) _ _ _ s3 (by rw [e9, hs3, pk_un (by decide), hs2, pk_us]; rfl) (fun b hb => by rw [e9] at hb; cases hb; rw [hs3, pk_us]) (s_fr_tr hf (s_fr_tr hf2 hf3)) (by omega) (by omega))
          · have hcd : y_cd X g (X (22 + 4 * j + g j)) := y_cj hw c14 c31
            have hcs := y_cs h hcd hT
            have hcd1 := hcd.1
            refine r_aload_n dX3_choose_34 rfl rfl ?_
            refine s_getR dX3_choose_35 fX3_80 (layX7 ho) rfl ?_
            refine r_iload dX3_choose_38 rfl ?_
            refine a_ald dX3_choose_40 (X7_routes ho) (by omega) (by decide) ?_
            refine r_aload_n dX3_choose_41 rfl rfl ?_
            refine s_getR dX3_choose_42 fX3_15 lysX3 rfl ?_
            refine r_iload dX3_choose_45 rfl ?_
            refine a_ld dX3_choose_47 rfl (by omega) (by decide) (show s1 146 j = nI (g j) by rw [hf 146 (by omega)]; exact hg _ (by omega)) ?_
            refine a_ld dX3_choose_48 (X7_routes_row ho (by omega)) (by omega) (by decide) (cl_rt hC1 (by omega) (by omega)) ?_
            refine r_istore dX3_choose_49 (by decide) rfl ?_
            refine r_aload_n dX3_choose_51 rfl rfl ?_
            refine r_aload_n dX3_choose_52 rfl rfl ?_
            refine r_iload dX3_choose_53 rfl ?_
            refine r_iload_n dX3_choose_55 rfl rfl ?_
            refine s_V3I mX3_startOf dX3_choose_56 okX3_startOf lX3_83 npX3_startOf lysX3 rfl (by decide) (by decide) (by decide) (Nat.le_of_ble_eq_true rfl) (Nat.le_of_ble_eq_true rfl) (d_startOf ho hC1 h hcd hT (fun q h1 h4 => by rw [hf 145 (by omega)]; exact hE q h1 h4)) (fun x s1 hq => ?_)
            obtain ⟨rfl, rfl⟩ := hq
            refine r_istore dX3_choose_59 (by decide) rfl ?_
            refine r_aload_n dX3_choose_61 rfl rfl ?_
            refine s_getI dX3_choose_62 fX3_32 lysX3 rfl h2b ?_
            refine r_iconst (v := -1) dX3_choose_65 (by decide) ?_
            refine r_icmp_eq (tgt := 82) dX3_choose_66 (by decide) (fun c66 => ?_) (fun c66 => ?_)
            · refine n_const 0 dX3_choose_82 (by decide) ?_
              refine r_istore dX3_choose_83 (by decide) rfl ?_
              refine r_aload_n dX3_choose_85 rfl rfl ?_
              refine s_getI dX3_choose_86 fX3_32 lysX3 rfl h2b ?_
              refine r_iconst (v := -1) dX3_choose_89 (by decide) ?_
              refine r_icmp_eq (tgt := 126) dX3_choose_90 (by decide) (fun c90 => ?_) (fun c90 => ?_)
              · refine r_aload_n dX3_choose_126 rfl rfl ?_
                refine r_iload dX3_choose_127 rfl ?_
                refine a_put dX3_choose_129 gX3_32 lysX3 rfl rfl rfl (fun s2 hs2 hf2 => ?_)
                refine r_aload_n dX3_choose_132 rfl rfl ?_
                refine r_iload dX3_choose_133 rfl ?_
                refine a_put dX3_choose_135 gX3_48 lysX3 rfl rfl rfl (fun s3 hs3 hf3 => ?_)
                refine n_inc dX3_choose_138 rfl (n_i1 _) (by decide) rfl ?_
                refine r_goto (tgt := 8) dX3_choose_141 (by decide) ?_
                first
                  | (have e9 := x_cz_no (X := X) (g := g) (fx := fx) (T := T) (rl := rl) (n := j) (by omega)
                     refine ih (j + 1) _ _ _ s1 (by rw [e9]; exact h2) (by rw [e9]; exact h3) hf (by omega) (by omega))
                  | (have e9 := x_cz_n (X := X) (g := g) (fx := fx) (T := T) (rl := rl) (n := j) (by omega) hbq
                     refine ih (j + 1) _ _ _ s3 (by rw [e9, hs3, pk_un (by decide), hs2, pk_us]; rfl) (fun b hb => by rw [e9] at hb; cases hb; rw [hs3, pk_us]) (s_fr_tr hf (s_fr_tr hf2 hf3)) (by omega) (by omega))
              · exact absurd rfl c90
            · exact absurd rfl c66
      | some b =>
        have h2b : s1 144 2 = nI b := by rw [h2, hbq]; rfl
        have h3b := h3 b hbq
        have hbc := y_cz hw hj hbq
        have hbs := y_cs h hbc hT
        have hb1 := hbc.1
        refine r_iload dX3_choose_8 rfl ?_
        refine r_aload_n dX3_choose_10 rfl rfl ?_
        refine s_getI dX3_choose_11 fX3_74 (layX7 ho) rfl (cl_jobs hC1) ?_
        refine n_cge (tgt := 144) dX3_choose_14 (by decide) (by omega) (by omega) (fun c14 => ?_) (fun c14 => ?_)
        · refine s_vret dX3_choose_144 rfl ?_
          have e9 : j = X 0 := by omega
          subst e9
          exact ⟨rfl, h2, h3, hf⟩
        · have hjb := y_jb hw c14
          have hgj := h.1.2.1 j c14
          refine r_aload_n dX3_choose_17 rfl rfl ?_
          refine s_getR dX3_choose_18 fX3_15 lysX3 rfl ?_
          refine r_iload dX3_choose_21 rfl ?_
          refine a_ld dX3_choose_23 rfl (by omega) (by decide) (show s1 146 j = nI (g j) by rw [hf 146 (by omega)]; exact hg _ (by omega)) ?_
          refine r_aload_n dX3_choose_24 rfl rfl ?_
          refine s_getR dX3_choose_25 fX3_77 (layX7 ho) rfl ?_
          refine r_iload dX3_choose_28 rfl ?_
          refine a_ld dX3_choose_30 (X7_stepCounts ho) (by omega) (by decide) (cl_len hC1 (by omega)) ?_
          refine n_cge (tgt := 138) dX3_choose_31 (by decide) (by omega) (by omega) (fun c31 => ?_) (fun c31 => ?_)
          · refine n_inc dX3_choose_138 rfl (n_i1 _) (by decide) rfl ?_
            refine r_goto (tgt := 8) dX3_choose_141 (by decide) ?_
            first
              | (have e9 := x_cz_no (X := X) (g := g) (fx := fx) (T := T) (rl := rl) (n := j) (by omega)
                 refine ih (j + 1) _ _ _ s1 (by rw [e9]; exact h2) (by rw [e9]; exact h3) hf (by omega) (by omega))
              | (have e9 := (x_cz_y (X := X) (g := g) (fx := fx) (T := T) (rl := rl) (n := j) (by omega) hbq).trans (if_pos (x_btd_1 c99))
                 refine ih (j + 1) _ _ _ s3 (by rw [e9, hs3, pk_un (by decide), hs2, pk_us]; rfl) (fun b hb => by rw [e9] at hb; cases hb; rw [hs3, pk_us]) (s_fr_tr hf (s_fr_tr hf2 hf3)) (by omega) (by omega))
              | (have e9 := (x_cz_y (X := X) (g := g) (fx := fx) (T := T) (rl := rl) (n := j) (by omega) hbq).trans (if_pos (x_btd_2 c75 (by cases hv : x_rv X rl (X (22 + 4 * j + g j)) b with | true => rfl | false => exact absurd ((c_rkv_le hw hcd.1 hb1 hr).mpr hv) c123)))
                 refine ih (j + 1) _ _ _ s3 (by rw [e9, hs3, pk_un (by decide), hs2, pk_us]; rfl) (fun b hb => by rw [e9] at hb; cases hb; rw [hs3, pk_us]) (s_fr_tr hf (s_fr_tr hf2 hf3)) (by omega) (by omega))
              | (have e9 := ((x_cz_y (X := X) (g := g) (fx := fx) (T := T) (rl := rl) (n := j) (by omega) hbq).trans (if_neg (x_btd_3 (by omega) c75))).trans hbq.symm
                 refine ih (j + 1) _ _ _ s1 (by rw [e9]; exact h2) (by rw [e9]; exact h3) hf (by omega) (by omega))
              | (have e9 := ((x_cz_y (X := X) (g := g) (fx := fx) (T := T) (rl := rl) (n := j) (by omega) hbq).trans (if_neg (x_btd_4 (by omega) ((c_rkv_le hw hcd.1 hb1 hr).mp c123)))).trans hbq.symm
                 refine ih (j + 1) _ _ _ s1 (by rw [e9]; exact h2) (by rw [e9]; exact h3) hf (by omega) (by omega))
          · have hcd : y_cd X g (X (22 + 4 * j + g j)) := y_cj hw c14 c31
            have hcs := y_cs h hcd hT
            have hcd1 := hcd.1
            refine r_aload_n dX3_choose_34 rfl rfl ?_
            refine s_getR dX3_choose_35 fX3_80 (layX7 ho) rfl ?_
            refine r_iload dX3_choose_38 rfl ?_
            refine a_ald dX3_choose_40 (X7_routes ho) (by omega) (by decide) ?_
            refine r_aload_n dX3_choose_41 rfl rfl ?_
            refine s_getR dX3_choose_42 fX3_15 lysX3 rfl ?_
            refine r_iload dX3_choose_45 rfl ?_
            refine a_ld dX3_choose_47 rfl (by omega) (by decide) (show s1 146 j = nI (g j) by rw [hf 146 (by omega)]; exact hg _ (by omega)) ?_
            refine a_ld dX3_choose_48 (X7_routes_row ho (by omega)) (by omega) (by decide) (cl_rt hC1 (by omega) (by omega)) ?_
            refine r_istore dX3_choose_49 (by decide) rfl ?_
            refine r_aload_n dX3_choose_51 rfl rfl ?_
            refine r_aload_n dX3_choose_52 rfl rfl ?_
            refine r_iload dX3_choose_53 rfl ?_
            refine r_iload_n dX3_choose_55 rfl rfl ?_
            refine s_V3I mX3_startOf dX3_choose_56 okX3_startOf lX3_83 npX3_startOf lysX3 rfl (by decide) (by decide) (by decide) (Nat.le_of_ble_eq_true rfl) (Nat.le_of_ble_eq_true rfl) (d_startOf ho hC1 h hcd hT (fun q h1 h4 => by rw [hf 145 (by omega)]; exact hE q h1 h4)) (fun x s1 hq => ?_)
            obtain ⟨rfl, rfl⟩ := hq
            refine r_istore dX3_choose_59 (by decide) rfl ?_
            refine r_aload_n dX3_choose_61 rfl rfl ?_
            refine s_getI dX3_choose_62 fX3_32 lysX3 rfl h2b ?_
            refine r_iconst (v := -1) dX3_choose_65 (by decide) ?_
            refine r_icmp_eq (tgt := 82) dX3_choose_66 (by decide) (fun c66 => ?_) (fun c66 => ?_)
            · exact absurd c66 (nI_m1 (by omega))
            · refine r_iload dX3_choose_69 rfl ?_
              refine r_aload_n dX3_choose_71 rfl rfl ?_
              refine s_getI dX3_choose_72 fX3_48 lysX3 rfl h3b ?_
              refine n_cne (tgt := 82) dX3_choose_75 (by decide) (by omega) (by omega) (fun c75 => ?_) (fun c75 => ?_)
              · refine n_const 0 dX3_choose_82 (by decide) ?_
                refine r_istore dX3_choose_83 (by decide) rfl ?_
                refine r_aload_n dX3_choose_85 rfl rfl ?_
                refine s_getI dX3_choose_86 fX3_32 lysX3 rfl h2b ?_
                refine r_iconst (v := -1) dX3_choose_89 (by decide) ?_
                refine r_icmp_eq (tgt := 126) dX3_choose_90 (by decide) (fun c90 => ?_) (fun c90 => ?_)
                · exact absurd c90 (nI_m1 (by omega))
                · refine r_iload dX3_choose_93 rfl ?_
                  refine r_aload_n dX3_choose_95 rfl rfl ?_
                  refine s_getI dX3_choose_96 fX3_48 lysX3 rfl h3b ?_
                  refine n_clt (tgt := 126) dX3_choose_99 (by decide) (by omega) (by omega) (fun c99 => ?_) (fun c99 => ?_)
                  · refine r_aload_n dX3_choose_126 rfl rfl ?_
                    refine r_iload dX3_choose_127 rfl ?_
                    refine a_put dX3_choose_129 gX3_32 lysX3 rfl rfl rfl (fun s2 hs2 hf2 => ?_)
                    refine r_aload_n dX3_choose_132 rfl rfl ?_
                    refine r_iload dX3_choose_133 rfl ?_
                    refine a_put dX3_choose_135 gX3_48 lysX3 rfl rfl rfl (fun s3 hs3 hf3 => ?_)
                    refine n_inc dX3_choose_138 rfl (n_i1 _) (by decide) rfl ?_
                    refine r_goto (tgt := 8) dX3_choose_141 (by decide) ?_
                    first
                      | (have e9 := x_cz_no (X := X) (g := g) (fx := fx) (T := T) (rl := rl) (n := j) (by omega)
                         refine ih (j + 1) _ _ _ s1 (by rw [e9]; exact h2) (by rw [e9]; exact h3) hf (by omega) (by omega))
                      | (have e9 := (x_cz_y (X := X) (g := g) (fx := fx) (T := T) (rl := rl) (n := j) (by omega) hbq).trans (if_pos (x_btd_1 c99))
                         refine ih (j + 1) _ _ _ s3 (by rw [e9, hs3, pk_un (by decide), hs2, pk_us]; rfl) (fun b hb => by rw [e9] at hb; cases hb; rw [hs3, pk_us]) (s_fr_tr hf (s_fr_tr hf2 hf3)) (by omega) (by omega))
                      | (have e9 := (x_cz_y (X := X) (g := g) (fx := fx) (T := T) (rl := rl) (n := j) (by omega) hbq).trans (if_pos (x_btd_2 c75 (by cases hv : x_rv X rl (X (22 + 4 * j + g j)) b with | true => rfl | false => exact absurd ((c_rkv_le hw hcd.1 hb1 hr).mpr hv) c123)))
                         refine ih (j + 1) _ _ _ s3 (by rw [e9, hs3, pk_un (by decide), hs2, pk_us]; rfl) (fun b hb => by rw [e9] at hb; cases hb; rw [hs3, pk_us]) (s_fr_tr hf (s_fr_tr hf2 hf3)) (by omega) (by omega))
                      | (have e9 := ((x_cz_y (X := X) (g := g) (fx := fx) (T := T) (rl := rl) (n := j) (by omega) hbq).trans (if_neg (x_btd_3 (by omega) c75))).trans hbq.symm
                         refine ih (j + 1) _ _ _ s1 (by rw [e9]; exact h2) (by rw [e9]; exact h3) hf (by omega) (by omega))
                      | (have e9 := ((x_cz_y (X := X) (g := g) (fx := fx) (T := T) (rl := rl) (n := j) (by omega) hbq).trans (if_neg (x_btd_4 (by omega) ((c_rkv_le hw hcd.1 hb1 hr).mp c123)))).trans hbq.symm
                         refine ih (j + 1) _ _ _ s1 (by rw [e9]; exact h2) (by rw [e9]; exact h3) hf (by omega) (by omega))
                  · refine r_iload dX3_choose_102 rfl ?_
                    refine n_ifeq (tgt := 138) dX3_choose_104 (by decide) (by omega) (fun c104 => ?_) (fun c104 => ?_)
                    · refine n_inc dX3_choose_138 rfl (n_i1 _) (by decide) rfl ?_
                      refine r_goto (tgt := 8) dX3_choose_141 (by decide) ?_
                      first
                        | (have e9 := x_cz_no (X := X) (g := g) (fx := fx) (T := T) (rl := rl) (n := j) (by omega)
                           refine ih (j + 1) _ _ _ s1 (by rw [e9]; exact h2) (by rw [e9]; exact h3) hf (by omega) (by omega))
                        | (have e9 := (x_cz_y (X := X) (g := g) (fx := fx) (T := T) (rl := rl) (n := j) (by omega) hbq).trans (if_pos (x_btd_1 c99))
                           refine ih (j + 1) _ _ _ s3 (by rw [e9, hs3, pk_un (by decide), hs2, pk_us]; rfl) (fun b hb => by rw [e9] at hb; cases hb; rw [hs3, pk_us]) (s_fr_tr hf (s_fr_tr hf2 hf3)) (by omega) (by omega))
                        | (have e9 := (x_cz_y (X := X) (g := g) (fx := fx) (T := T) (rl := rl) (n := j) (by omega) hbq).trans (if_pos (x_btd_2 c75 (by cases hv : x_rv X rl (X (22 + 4 * j + g j)) b with | true => rfl | false => exact absurd ((c_rkv_le hw hcd.1 hb1 hr).mpr hv) c123)))
                           refine ih (j + 1) _ _ _ s3 (by rw [e9, hs3, pk_un (by decide), hs2, pk_us]; rfl) (fun b hb => by rw [e9] at hb; cases hb; rw [hs3, pk_us]) (s_fr_tr hf (s_fr_tr hf2 hf3)) (by omega) (by omega))
                        | (have e9 := ((x_cz_y (X := X) (g := g) (fx := fx) (T := T) (rl := rl) (n := j) (by omega) hbq).trans (if_neg (x_btd_3 (by omega) c75))).trans hbq.symm
                           refine ih (j + 1) _ _ _ s1 (by rw [e9]; exact h2) (by rw [e9]; exact h3) hf (by omega) (by omega))
                        | (have e9 := ((x_cz_y (X := X) (g := g) (fx := fx) (T := T) (rl := rl) (n := j) (by omega) hbq).trans (if_neg (x_btd_4 (by omega) ((c_rkv_le hw hcd.1 hb1 hr).mp c123)))).trans hbq.symm
                           refine ih (j + 1) _ _ _ s1 (by rw [e9]; exact h2) (by rw [e9]; exact h3) hf (by omega) (by omega))
                    · exact absurd c104 (by decide)
              · refine n_const 1 dX3_choose_78 (by decide) ?_
                refine r_goto (tgt := 83) dX3_choose_79 (by decide) ?_
                refine r_istore dX3_choose_83 (by decide) rfl ?_
                refine r_aload_n dX3_choose_85 rfl rfl ?_
                refine s_getI dX3_choose_86 fX3_32 lysX3 rfl h2b ?_
                refine r_iconst (v := -1) dX3_choose_89 (by decide) ?_
                refine r_icmp_eq (tgt := 126) dX3_choose_90 (by decide) (fun c90 => ?_) (fun c90 => ?_)
                · exact absurd c90 (nI_m1 (by omega))
                · refine r_iload dX3_choose_93 rfl ?_
                  refine r_aload_n dX3_choose_95 rfl rfl ?_
                  refine s_getI dX3_choose_96 fX3_48 lysX3 rfl h3b ?_
                  refine n_clt (tgt := 126) dX3_choose_99 (by decide) (by omega) (by omega) (fun c99 => ?_) (fun c99 => ?_)
                  · refine r_aload_n dX3_choose_126 rfl rfl ?_
                    refine r_iload dX3_choose_127 rfl ?_
                    refine a_put dX3_choose_129 gX3_32 lysX3 rfl rfl rfl (fun s2 hs2 hf2 => ?_)
                    refine r_aload_n dX3_choose_132 rfl rfl ?_
                    refine r_iload dX3_choose_133 rfl ?_
                    refine a_put dX3_choose_135 gX3_48 lysX3 rfl rfl rfl (fun s3 hs3 hf3 => ?_)
                    refine n_inc dX3_choose_138 rfl (n_i1 _) (by decide) rfl ?_
                    refine r_goto (tgt := 8) dX3_choose_141 (by decide) ?_
                    first
                      | (have e9 := x_cz_no (X := X) (g := g) (fx := fx) (T := T) (rl := rl) (n := j) (by omega)
                         refine ih (j + 1) _ _ _ s1 (by rw [e9]; exact h2) (by rw [e9]; exact h3) hf (by omega) (by omega))
                      | (have e9 := (x_cz_y (X := X) (g := g) (fx := fx) (T := T) (rl := rl) (n := j) (by omega) hbq).trans (if_pos (x_btd_1 c99))
                         refine ih (j + 1) _ _ _ s3 (by rw [e9, hs3, pk_un (by decide), hs2, pk_us]; rfl) (fun b hb => by rw [e9] at hb; cases hb; rw [hs3, pk_us]) (s_fr_tr hf (s_fr_tr hf2 hf3)) (by omega) (by omega))
                      | (have e9 := (x_cz_y (X := X) (g := g) (fx := fx) (T := T) (rl := rl) (n := j) (by omega) hbq).trans (if_pos (x_btd_2 c75 (by cases hv : x_rv X rl (X (22 + 4 * j + g j)) b with | true => rfl | false => exact absurd ((c_rkv_le hw hcd.1 hb1 hr).mpr hv) c123)))
                         refine ih (j + 1) _ _ _ s3 (by rw [e9, hs3, pk_un (by decide), hs2, pk_us]; rfl) (fun b hb => by rw [e9] at hb; cases hb; rw [hs3, pk_us]) (s_fr_tr hf (s_fr_tr hf2 hf3)) (by omega) (by omega))
                      | (have e9 := ((x_cz_y (X := X) (g := g) (fx := fx) (T := T) (rl := rl) (n := j) (by omega) hbq).trans (if_neg (x_btd_3 (by omega) c75))).trans hbq.symm
                         refine ih (j + 1) _ _ _ s1 (by rw [e9]; exact h2) (by rw [e9]; exact h3) hf (by omega) (by omega))
                      | (have e9 := ((x_cz_y (X := X) (g := g) (fx := fx) (T := T) (rl := rl) (n := j) (by omega) hbq).trans (if_neg (x_btd_4 (by omega) ((c_rkv_le hw hcd.1 hb1 hr).mp c123)))).trans hbq.symm
                         refine ih (j + 1) _ _ _ s1 (by rw [e9]; exact h2) (by rw [e9]; exact h3) hf (by omega) (by omega))
                  · refine r_iload dX3_choose_102 rfl ?_
                    refine n_ifeq (tgt := 138) dX3_choose_104 (by decide) (by omega) (fun c104 => ?_) (fun c104 => ?_)
                    · exact absurd c104 (by decide)
                    · refine r_aload_n dX3_choose_107 rfl rfl ?_
                      refine r_iload dX3_choose_108 rfl ?_
                      refine r_iload_n dX3_choose_110 rfl rfl ?_
                      refine s_S3I mX3_rank dX3_choose_111 okX3_rank lX3_87 npX3_rank (by decide) (by decide) (by decide) (Nat.le_of_ble_eq_true rfl) (Nat.le_of_ble_eq_true rfl) (d_rank ho hC1 hw (by assumption) hr) (fun x s1 hq => ?_)
                      obtain ⟨rfl, rfl⟩ := hq
                      refine r_aload_n dX3_choose_114 rfl rfl ?_
                      refine r_aload_n dX3_choose_115 rfl rfl ?_
                      refine s_getI dX3_choose_116 fX3_32 lysX3 rfl h2b ?_
                      refine r_iload_n dX3_choose_119 rfl rfl ?_
                      refine s_S3I mX3_rank dX3_choose_120 okX3_rank lX3_87 npX3_rank (by decide) (by decide) (by decide) (Nat.le_of_ble_eq_true rfl) (Nat.le_of_ble_eq_true rfl) (d_rank ho hC1 hw (by assumption) hr) (fun x s1 hq => ?_)
                      obtain ⟨rfl, rfl⟩ := hq
                      refine r_icmp_ge (tgt := 138) dX3_choose_123 (by decide) (fun c123 => ?_) (fun c123 => ?_)
                      · refine n_inc dX3_choose_138 rfl (n_i1 _) (by decide) rfl ?_
                        refine r_goto (tgt := 8) dX3_choose_141 (by decide) ?_
                        first
                          | (have e9 := x_cz_no (X := X) (g := g) (fx := fx) (T := T) (rl := rl) (n := j) (by omega)
                             refine ih (j + 1) _ _ _ s1 (by rw [e9]; exact h2) (by rw [e9]; exact h3) hf (by omega) (by omega))
                          | (have e9 := (x_cz_y (X := X) (g := g) (fx := fx) (T := T) (rl := rl) (n := j) (by omega) hbq).trans (if_pos (x_btd_1 c99))
                             refine ih (j + 1) _ _ _ s3 (by rw [e9, hs3, pk_un (by decide), hs2, pk_us]; rfl) (fun b hb => by rw [e9] at hb; cases hb; rw [hs3, pk_us]) (s_fr_tr hf (s_fr_tr hf2 hf3)) (by omega) (by omega))
                          | (have e9 := (x_cz_y (X := X) (g := g) (fx := fx) (T := T) (rl := rl) (n := j) (by omega) hbq).trans (if_pos (x_btd_2 c75 (by cases hv : x_rv X rl (X (22 + 4 * j + g j)) b with | true => rfl | false => exact absurd ((c_rkv_le hw hcd.1 hb1 hr).mpr hv) c123)))
                             refine ih (j + 1) _ _ _ s3 (by rw [e9, hs3, pk_un (by decide), hs2, pk_us]; rfl) (fun b hb => by rw [e9] at hb; cases hb; rw [hs3, pk_us]) (s_fr_tr hf (s_fr_tr hf2 hf3)) (by omega) (by omega))
                          | (have e9 := ((x_cz_y (X := X) (g := g) (fx := fx) (T := T) (rl := rl) (n := j) (by omega) hbq).trans (if_neg (x_btd_3 (by omega) c75))).trans hbq.symm
                             refine ih (j + 1) _ _ _ s1 (by rw [e9]; exact h2) (by rw [e9]; exact h3) hf (by omega) (by omega))
                          | (have e9 := ((x_cz_y (X := X) (g := g) (fx := fx) (T := T) (rl := rl) (n := j) (by omega) hbq).trans (if_neg (x_btd_4 (by omega) ((c_rkv_le hw hcd.1 hb1 hr).mp c123)))).trans hbq.symm
                             refine ih (j + 1) _ _ _ s1 (by rw [e9]; exact h2) (by rw [e9]; exact h3) hf (by omega) (by omega))
                      · refine r_aload_n dX3_choose_126 rfl rfl ?_
                        refine r_iload dX3_choose_127 rfl ?_
                        refine a_put dX3_choose_129 gX3_32 lysX3 rfl rfl rfl (fun s2 hs2 hf2 => ?_)
                        refine r_aload_n dX3_choose_132 rfl rfl ?_
                        refine r_iload dX3_choose_133 rfl ?_
                        refine a_put dX3_choose_135 gX3_48 lysX3 rfl rfl rfl (fun s3 hs3 hf3 => ?_)
                        refine n_inc dX3_choose_138 rfl (n_i1 _) (by decide) rfl ?_
                        refine r_goto (tgt := 8) dX3_choose_141 (by decide) ?_
                        first
                          | (have e9 := x_cz_no (X := X) (g := g) (fx := fx) (T := T) (rl := rl) (n := j) (by omega)
                             refine ih (j + 1) _ _ _ s1 (by rw [e9]; exact h2) (by rw [e9]; exact h3) hf (by omega) (by omega))
                          | (have e9 := (x_cz_y (X := X) (g := g) (fx := fx) (T := T) (rl := rl) (n := j) (by omega) hbq).trans (if_pos (x_btd_1 c99))
                             refine ih (j + 1) _ _ _ s3 (by rw [e9, hs3, pk_un (by decide), hs2, pk_us]; rfl) (fun b hb => by rw [e9] at hb; cases hb; rw [hs3, pk_us]) (s_fr_tr hf (s_fr_tr hf2 hf3)) (by omega) (by omega))
                          | (have e9 := (x_cz_y (X := X) (g := g) (fx := fx) (T := T) (rl := rl) (n := j) (by omega) hbq).trans (if_pos (x_btd_2 c75 (by cases hv : x_rv X rl (X (22 + 4 * j + g j)) b with | true => rfl | false => exact absurd ((c_rkv_le hw hcd.1 hb1 hr).mpr hv) c123)))
                             refine ih (j + 1) _ _ _ s3 (by rw [e9, hs3, pk_un (by decide), hs2, pk_us]; rfl) (fun b hb => by rw [e9] at hb; cases hb; rw [hs3, pk_us]) (s_fr_tr hf (s_fr_tr hf2 hf3)) (by omega) (by omega))
                          | (have e9 := ((x_cz_y (X := X) (g := g) (fx := fx) (T := T) (rl := rl) (n := j) (by omega) hbq).trans (if_neg (x_btd_3 (by omega) c75))).trans hbq.symm
                             refine ih (j + 1) _ _ _ s1 (by rw [e9]; exact h2) (by rw [e9]; exact h3) hf (by omega) (by omega))
                          | (have e9 := ((x_cz_y (X := X) (g := g) (fx := fx) (T := T) (rl := rl) (n := j) (by omega) hbq).trans (if_neg (x_btd_4 (by omega) ((c_rkv_le hw hcd.1 hb1 hr).mp c123)))).trans hbq.symm
                             refine ih (j + 1) _ _ _ s1 (by rw [e9]; exact h2) (by rw [e9]; exact h3) hf (by omega) (by omega))
  refine r_aload_n dX3_choose_0 rfl rfl ?_
  refine r_iconst (v := -1) dX3_choose_1 (by decide) ?_
  refine a_put dX3_choose_2 gX3_32 lysX3 rfl rfl rfl (fun s1 hs1 hf1 => ?_)
  refine n_const 0 dX3_choose_5 (by decide) ?_
  refine r_istore dX3_choose_6 (by decide) rfl ?_
  exact lp (X 0 + 1) 0 _ _ _ s1 (by rw [hs1, pk_us]; rfl) (fun b hb => by cases hb) hf1 (by omega) (by omega)
end
