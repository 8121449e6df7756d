/-! ===== copyFrom, save, restore, append ===== -/
set_option maxRecDepth 20000 in
set_option maxHeartbeats 1000000 in
theorem c_ordersCopy {G : q_G} {s : s_T} {q0 q1 : Nat} (hq0 : isX5 q0) (hq1 : isX5 q1) (hd : q0 + 7 ≤ q1 ∨ q1 + 7 ≤ q0) : s_W G mX5_copyFrom 4 0 0 (c_V (fun s1 => (∀ m, m < 4 → s1 (q0 + 1) m = s (q1 + 1) m) ∧ (∀ i j, i < 4 → j < 5 → s1 (q0 + 3 + i) j = s (q1 + 3 + i) j) ∧ s_fr q0 (q0 + 7) s s1)) 0 (q_ent mX5_copyFrom [.ref q0, .ref q1]) [] s := by
  show s_W G mX5_copyFrom 4 0 0 _ 0 [some (.ref q0), some (.ref q1)] [] s
  have h0 := o5_le hq0
  have h1 := o5_le hq1
  refine r_aload_n dX5_copyFrom_0 rfl rfl ?_
  refine s_getR dX5_copyFrom_1 fX5_9 (layX5 hq1) rfl ?_
  refine r_aload_n dX5_copyFrom_4 rfl rfl ?_
  refine s_getR dX5_copyFrom_5 fX5_9 (layX5 hq0) rfl ?_
  refine s_N2V mX11_copyRow dX5_copyFrom_8 okX11_copyRow lX5_20 npX11_copyRow (by decide) (by decide) (by decide) (Nat.le_of_ble_eq_true rfl) (Nat.le_of_ble_eq_true rfl) (c_copyRow (X5_sizes hq1) (X5_sizes hq0) (by decide)) (fun s1 hq => ?_)
  obtain ⟨c8, f8⟩ := hq
  refine r_aload_n dX5_copyFrom_11 rfl rfl ?_
  refine s_getR dX5_copyFrom_12 fX5_17 (layX5 hq1) rfl ?_
  refine r_aload_n dX5_copyFrom_15 rfl rfl ?_
  refine s_getR dX5_copyFrom_16 fX5_17 (layX5 hq0) rfl ?_
  refine s_N2V mX11_copyRows dX5_copyFrom_19 okX11_copyRows lX5_24 npX11_copyRows (by decide) (by decide) (by decide) (Nat.le_of_ble_eq_true rfl) (Nat.le_of_ble_eq_true rfl) (c_copyRows (X5_rows hq1) (X5_rows hq0) (fun i hi => X5_rows_row hq1 hi) (fun i hi => X5_rows_row hq0 hi) (by decide) (by decide) (by omega)) (fun s1 hq => ?_)
  obtain ⟨c19, f19⟩ := hq
  refine s_vret dX5_copyFrom_22 rfl ?_
  refine ⟨rfl, fun m hm => ?_, fun i j hi hj => ?_, s_fr_tr (s_fr_w f8 (by omega) (by omega)) (s_fr_w f19 (by omega) (by omega))⟩
  · rw [f19 _ (by omega), c8 m hm]
  · rw [c19 i j hi hj, f8 _ (by omega)]
set_option maxRecDepth 20000 in
set_option maxHeartbeats 1000000 in
theorem c_shopCopy {G : q_G} {s : s_T} {X : x_T} {o0 o1 : Nat} (ho0 : isX7 o0) (ho1 : isX7 o1) (hd : o0 + 41 ≤ o1 ∨ o1 + 41 ≤ o0) (hC : c_R X s o1) (hw : x_wf X) : s_W G mX7_copyFrom 5 0 0 (c_V (fun s1 => c_R X s1 o0 ∧ s_fr o0 (o0 + 41) s s1)) 0 (q_ent mX7_copyFrom [.ref o0, .ref o1]) [] s := by
  show s_W G mX7_copyFrom 5 0 0 _ 0 [some (.ref o0), some (.ref o1)] [] s
  have h0 := o7_le ho0
  have h1 := o7_le ho1
  have hs := x_sz hw
  refine r_aload_n dX7_copyFrom_0 rfl rfl ?_
  refine r_aload_n dX7_copyFrom_1 rfl rfl ?_
  refine s_getI dX7_copyFrom_2 fX7_57 (layX7 ho1) rfl rfl ?_
  refine a_put dX7_copyFrom_5 gX7_57 (layX7 ho0) rfl rfl rfl (fun s1 gp5 fp5 => ?_)
  refine r_aload_n dX7_copyFrom_8 rfl rfl ?_
  refine r_aload_n dX7_copyFrom_9 rfl rfl ?_
  refine s_getI dX7_copyFrom_10 fX7_61 (layX7 ho1) rfl rfl ?_
  refine a_put dX7_copyFrom_13 gX7_61 (layX7 ho0) rfl rfl rfl (fun s1 gp13 fp13 => ?_)
  refine r_aload_n dX7_copyFrom_16 rfl rfl ?_
  refine s_getR dX7_copyFrom_17 fX7_11 (layX7 ho1) rfl ?_
  refine r_aload_n dX7_copyFrom_20 rfl rfl ?_
  refine s_getR dX7_copyFrom_21 fX7_11 (layX7 ho0) rfl ?_
  refine s_N2V mX11_copyRows dX7_copyFrom_24 okX11_copyRows lX7_64 npX11_copyRows (by decide) (by decide) (by decide) (Nat.le_of_ble_eq_true rfl) (Nat.le_of_ble_eq_true rfl) (c_copyRows (X7_jobData ho1) (X7_jobData ho0) (fun i hi => X7_jobData_row ho1 hi) (fun i hi => X7_jobData_row ho0 hi) (by decide) (by decide) (by omega)) (fun s1 hq => ?_)
  obtain ⟨c24, f24⟩ := hq
  refine r_aload_n dX7_copyFrom_27 rfl rfl ?_
  refine s_getR dX7_copyFrom_28 fX7_16 (layX7 ho1) rfl ?_
  refine r_aload_n dX7_copyFrom_31 rfl rfl ?_
  refine s_getR dX7_copyFrom_32 fX7_16 (layX7 ho0) rfl ?_
  refine s_N2V mX11_copyRow dX7_copyFrom_35 okX11_copyRow lX7_68 npX11_copyRow (by decide) (by decide) (by decide) (Nat.le_of_ble_eq_true rfl) (Nat.le_of_ble_eq_true rfl) (c_copyRow (X7_stepCounts ho1) (X7_stepCounts ho0) (by decide)) (fun s1 hq => ?_)
  obtain ⟨c35, f35⟩ := hq
  refine r_aload_n dX7_copyFrom_38 rfl rfl ?_
  refine s_getR dX7_copyFrom_39 fX7_20 (layX7 ho1) rfl ?_
  refine r_aload_n dX7_copyFrom_42 rfl rfl ?_
  refine s_getR dX7_copyFrom_43 fX7_20 (layX7 ho0) rfl ?_
  refine s_N2V mX11_copyRows dX7_copyFrom_46 okX11_copyRows lX7_64 npX11_copyRows (by decide) (by decide) (by decide) (Nat.le_of_ble_eq_true rfl) (Nat.le_of_ble_eq_true rfl) (c_copyRows (X7_routes ho1) (X7_routes ho0) (fun i hi => X7_routes_row ho1 hi) (fun i hi => X7_routes_row ho0 hi) (by decide) (by decide) (by omega)) (fun s1 hq => ?_)
  obtain ⟨c46, f46⟩ := hq
  refine r_aload_n dX7_copyFrom_49 rfl rfl ?_
  refine s_getR dX7_copyFrom_50 fX7_23 (layX7 ho1) rfl ?_
  refine r_aload_n dX7_copyFrom_53 rfl rfl ?_
  refine s_getR dX7_copyFrom_54 fX7_23 (layX7 ho0) rfl ?_
  refine s_N2V mX11_copyRow dX7_copyFrom_57 okX11_copyRow lX7_68 npX11_copyRow (by decide) (by decide) (by decide) (Nat.le_of_ble_eq_true rfl) (Nat.le_of_ble_eq_true rfl) (c_copyRow (X7_jobOf ho1) (X7_jobOf ho0) (by decide)) (fun s1 hq => ?_)
  obtain ⟨c57, f57⟩ := hq
  refine r_aload_n dX7_copyFrom_60 rfl rfl ?_
  refine s_getR dX7_copyFrom_61 fX7_26 (layX7 ho1) rfl ?_
  refine r_aload_n dX7_copyFrom_64 rfl rfl ?_
  refine s_getR dX7_copyFrom_65 fX7_26 (layX7 ho0) rfl ?_
  refine s_N2V mX11_copyRow dX7_copyFrom_68 okX11_copyRow lX7_68 npX11_copyRow (by decide) (by decide) (by decide) (Nat.le_of_ble_eq_true rfl) (Nat.le_of_ble_eq_true rfl) (c_copyRow (X7_machineOf ho1) (X7_machineOf ho0) (by decide)) (fun s1 hq => ?_)
  obtain ⟨c68, f68⟩ := hq
  refine r_aload_n dX7_copyFrom_71 rfl rfl ?_
  refine s_getR dX7_copyFrom_72 fX7_29 (layX7 ho1) rfl ?_
  refine r_aload_n dX7_copyFrom_75 rfl rfl ?_
  refine s_getR dX7_copyFrom_76 fX7_29 (layX7 ho0) rfl ?_
  refine s_N2V mX11_copyRow dX7_copyFrom_79 okX11_copyRow lX7_68 npX11_copyRow (by decide) (by decide) (by decide) (Nat.le_of_ble_eq_true rfl) (Nat.le_of_ble_eq_true rfl) (c_copyRow (X7_durations ho1) (X7_durations ho0) (by decide)) (fun s1 hq => ?_)
  obtain ⟨c79, f79⟩ := hq
  refine r_aload_n dX7_copyFrom_82 rfl rfl ?_
  refine s_getR dX7_copyFrom_83 fX7_32 (layX7 ho1) rfl ?_
  refine r_aload_n dX7_copyFrom_86 rfl rfl ?_
  refine s_getR dX7_copyFrom_87 fX7_32 (layX7 ho0) rfl ?_
  refine s_N2V mX11_copyRow dX7_copyFrom_90 okX11_copyRow lX7_68 npX11_copyRow (by decide) (by decide) (by decide) (Nat.le_of_ble_eq_true rfl) (Nat.le_of_ble_eq_true rfl) (c_copyRow (X7_families ho1) (X7_families ho0) (by decide)) (fun s1 hq => ?_)
  obtain ⟨c90, f90⟩ := hq
  refine r_aload_n dX7_copyFrom_93 rfl rfl ?_
  refine s_getR dX7_copyFrom_94 fX7_35 (layX7 ho1) rfl ?_
  refine r_aload_n dX7_copyFrom_97 rfl rfl ?_
  refine s_getR dX7_copyFrom_98 fX7_35 (layX7 ho0) rfl ?_
  refine s_N2V mX11_copyRow dX7_copyFrom_101 okX11_copyRow lX7_68 npX11_copyRow (by decide) (by decide) (by decide) (Nat.le_of_ble_eq_true rfl) (Nat.le_of_ble_eq_true rfl) (c_copyRow (X7_stepOf ho1) (X7_stepOf ho0) (by decide)) (fun s1 hq => ?_)
  obtain ⟨c101, f101⟩ := hq
  refine r_aload_n dX7_copyFrom_104 rfl rfl ?_
  refine s_getR dX7_copyFrom_105 fX7_38 (layX7 ho1) rfl ?_
  refine r_aload_n dX7_copyFrom_108 rfl rfl ?_
  refine s_getR dX7_copyFrom_109 fX7_38 (layX7 ho0) rfl ?_
  refine s_N2V mX11_copyRows dX7_copyFrom_112 okX11_copyRows lX7_64 npX11_copyRows (by decide) (by decide) (by decide) (Nat.le_of_ble_eq_true rfl) (Nat.le_of_ble_eq_true rfl) (c_copyRows (X7_setups ho1) (X7_setups ho0) (fun i hi => X7_setups_row ho1 hi) (fun i hi => X7_setups_row ho0 hi) (by decide) (by decide) (by omega)) (fun s1 hq => ?_)
  obtain ⟨c112, f112⟩ := hq
  refine r_aload_n dX7_copyFrom_115 rfl rfl ?_
  refine s_getR dX7_copyFrom_116 fX7_41 (layX7 ho1) rfl ?_
  refine r_aload_n dX7_copyFrom_119 rfl rfl ?_
  refine s_getR dX7_copyFrom_120 fX7_41 (layX7 ho0) rfl ?_
  refine s_N2V mX11_copyRow dX7_copyFrom_123 okX11_copyRow lX7_68 npX11_copyRow (by decide) (by decide) (by decide) (Nat.le_of_ble_eq_true rfl) (Nat.le_of_ble_eq_true rfl) (c_copyRow (X7_breakdowns ho1) (X7_breakdowns ho0) (by decide)) (fun s1 hq => ?_)
  obtain ⟨c123, f123⟩ := hq
  refine r_aload_n dX7_copyFrom_126 rfl rfl ?_
  refine s_getR dX7_copyFrom_127 fX7_44 (layX7 ho1) rfl ?_
  refine r_aload_n dX7_copyFrom_130 rfl rfl ?_
  refine s_getR dX7_copyFrom_131 fX7_44 (layX7 ho0) rfl ?_
  refine s_N2V mX11_copyRows dX7_copyFrom_134 okX11_copyRows lX7_64 npX11_copyRows (by decide) (by decide) (by decide) (Nat.le_of_ble_eq_true rfl) (Nat.le_of_ble_eq_true rfl) (c_copyRows (X7_breakFirst ho1) (X7_breakFirst ho0) (fun i hi => X7_breakFirst_row ho1 hi) (fun i hi => X7_breakFirst_row ho0 hi) (by decide) (by decide) (by omega)) (fun s1 hq => ?_)
  obtain ⟨c134, f134⟩ := hq
  refine r_aload_n dX7_copyFrom_137 rfl rfl ?_
  refine s_getR dX7_copyFrom_138 fX7_47 (layX7 ho1) rfl ?_
  refine r_aload_n dX7_copyFrom_141 rfl rfl ?_
  refine s_getR dX7_copyFrom_142 fX7_47 (layX7 ho0) rfl ?_
  refine s_N2V mX11_copyRows dX7_copyFrom_145 okX11_copyRows lX7_64 npX11_copyRows (by decide) (by decide) (by decide) (Nat.le_of_ble_eq_true rfl) (Nat.le_of_ble_eq_true rfl) (c_copyRows (X7_breakBehind ho1) (X7_breakBehind ho0) (fun i hi => X7_breakBehind_row ho1 hi) (fun i hi => X7_breakBehind_row ho0 hi) (by decide) (by decide) (by omega)) (fun s1 hq => ?_)
  obtain ⟨c145, f145⟩ := hq
  refine r_aload_n dX7_copyFrom_148 rfl rfl ?_
  refine s_getR dX7_copyFrom_149 fX7_53 (layX7 ho0) rfl ?_
  refine r_aload_n dX7_copyFrom_152 rfl rfl ?_
  refine s_getR dX7_copyFrom_153 fX7_53 (layX7 ho1) rfl ?_
  refine s_V1V mX5_copyFrom dX7_copyFrom_156 okX5_copyFrom lX7_72 npX5_copyFrom (layX5 (X7_orders ho0)) rfl (by decide) (by decide) (by decide) (Nat.le_of_ble_eq_true rfl) (Nat.le_of_ble_eq_true rfl) (c_ordersCopy (X7_orders ho0) (X7_orders ho1) (by omega)) (fun s1 hq => ?_)
  obtain ⟨c156a, c156b, f156⟩ := hq
  have c156 := And.intro c156a c156b
  refine s_vret dX7_copyFrom_159 rfl ?_
  refine ⟨rfl, ⟨⟨?_, ?_⟩, fun j9 hj9 => ?_, fun k9 hk9 => ?_, fun f9 g9 hf9 hg9 => ?_, fun m9 hm9 => ?_, fun m9 hm9 => ?_⟩, ?_⟩
  · rw [f156 _ (by omega), f145 _ (by omega), f134 _ (by omega), f123 _ (by omega), f112 _ (by omega), f101 _ (by omega), f90 _ (by omega), f79 _ (by omega), f68 _ (by omega), f57 _ (by omega), f46 _ (by omega), f35 _ (by omega), f24 _ (by omega), gp13, pk_un (by decide), gp5, pk_us]; exact cl_jobs hC
  · rw [f156 _ (by omega), f145 _ (by omega), f134 _ (by omega), f123 _ (by omega), f112 _ (by omega), f101 _ (by omega), f90 _ (by omega), f79 _ (by omega), f68 _ (by omega), f57 _ (by omega), f46 _ (by omega), f35 _ (by omega), f24 _ (by omega), gp13, pk_us, fp5 _ (by omega)]; exact cl_ops hC
  · have hjb := x_jb hw hj9
    refine ⟨?_, ?_, ?_, ?_, fun i9 hi9 => ?_⟩
    · rw [f156 _ (by omega), f145 _ (by omega), f134 _ (by omega), f123 _ (by omega), f112 _ (by omega), f101 _ (by omega), f90 _ (by omega), f79 _ (by omega), f68 _ (by omega), f57 _ (by omega), f46 _ (by omega), f35 _ (by omega), c24 j9 0 (by omega) (by omega), fp13 _ (by omega), fp5 _ (by omega)]; exact cl_rel hC hj9
    · rw [f156 _ (by omega), f145 _ (by omega), f134 _ (by omega), f123 _ (by omega), f112 _ (by omega), f101 _ (by omega), f90 _ (by omega), f79 _ (by omega), f68 _ (by omega), f57 _ (by omega), f46 _ (by omega), f35 _ (by omega), c24 j9 1 (by omega) (by omega), fp13 _ (by omega), fp5 _ (by omega)]; exact cl_due hC hj9
    · rw [f156 _ (by omega), f145 _ (by omega), f134 _ (by omega), f123 _ (by omega), f112 _ (by omega), f101 _ (by omega), f90 _ (by omega), f79 _ (by omega), f68 _ (by omega), f57 _ (by omega), f46 _ (by omega), f35 _ (by omega), c24 j9 2 (by omega) (by omega), fp13 _ (by omega), fp5 _ (by omega)]; exact cl_wt hC hj9
    · rw [f156 _ (by omega), f145 _ (by omega), f134 _ (by omega), f123 _ (by omega), f112 _ (by omega), f101 _ (by omega), f90 _ (by omega), f79 _ (by omega), f68 _ (by omega), f57 _ (by omega), f46 _ (by omega), c35 j9 (by omega), f24 _ (by omega), fp13 _ (by omega), fp5 _ (by omega)]; exact cl_len hC hj9
    · rw [f156 _ (by omega), f145 _ (by omega), f134 _ (by omega), f123 _ (by omega), f112 _ (by omega), f101 _ (by omega), f90 _ (by omega), f79 _ (by omega), f68 _ (by omega), f57 _ (by omega), c46 j9 i9 (by omega) (by omega), f35 _ (by omega), f24 _ (by omega), fp13 _ (by omega), fp5 _ (by omega)]; exact cl_rt hC hj9 hi9
  · refine ⟨?_, ?_, ?_, ?_, ?_⟩
    · rw [f156 _ (by omega), f145 _ (by omega), f134 _ (by omega), f123 _ (by omega), f112 _ (by omega), f101 _ (by omega), f90 _ (by omega), f79 _ (by omega), f68 _ (by omega), c57 k9 (by omega), f46 _ (by omega), f35 _ (by omega), f24 _ (by omega), fp13 _ (by omega), fp5 _ (by omega)]; exact cl_job hC hk9
    · rw [f156 _ (by omega), f145 _ (by omega), f134 _ (by omega), f123 _ (by omega), f112 _ (by omega), f101 _ (by omega), f90 _ (by omega), f79 _ (by omega), c68 k9 (by omega), f57 _ (by omega), f46 _ (by omega), f35 _ (by omega), f24 _ (by omega), fp13 _ (by omega), fp5 _ (by omega)]; exact cl_mc hC hk9
    · rw [f156 _ (by omega), f145 _ (by omega), f134 _ (by omega), f123 _ (by omega), f112 _ (by omega), f101 _ (by omega), f90 _ (by omega), c79 k9 (by omega), f68 _ (by omega), f57 _ (by omega), f46 _ (by omega), f35 _ (by omega), f24 _ (by omega), fp13 _ (by omega), fp5 _ (by omega)]; exact cl_du hC hk9
    · rw [f156 _ (by omega), f145 _ (by omega), f134 _ (by omega), f123 _ (by omega), f112 _ (by omega), f101 _ (by omega), c90 k9 (by omega), f79 _ (by omega), f68 _ (by omega), f57 _ (by omega), f46 _ (by omega), f35 _ (by omega), f24 _ (by omega), fp13 _ (by omega), fp5 _ (by omega)]; exact cl_fa hC hk9
    · rw [f156 _ (by omega), f145 _ (by omega), f134 _ (by omega), f123 _ (by omega), f112 _ (by omega), c101 k9 (by omega), f90 _ (by omega), f79 _ (by omega), f68 _ (by omega), f57 _ (by omega), f46 _ (by omega), f35 _ (by omega), f24 _ (by omega), fp13 _ (by omega), fp5 _ (by omega)]; exact cl_st hC hk9
  · rw [f156 _ (by omega), f145 _ (by omega), f134 _ (by omega), f123 _ (by omega), c112 f9 g9 (by omega) (by omega), f101 _ (by omega), f90 _ (by omega), f79 _ (by omega), f68 _ (by omega), f57 _ (by omega), f46 _ (by omega), f35 _ (by omega), f24 _ (by omega), fp13 _ (by omega), fp5 _ (by omega)]; exact cl_su hC hf9 hg9
  · have hmn := x_mn hw hm9
    refine ⟨?_, fun i9 hi9 => ⟨?_, ?_⟩⟩
    · rw [f156 _ (by omega), f145 _ (by omega), f134 _ (by omega), c123 m9 (by omega), f112 _ (by omega), f101 _ (by omega), f90 _ (by omega), f79 _ (by omega), f68 _ (by omega), f57 _ (by omega), f46 _ (by omega), f35 _ (by omega), f24 _ (by omega), fp13 _ (by omega), fp5 _ (by omega)]; exact cl_bn hC hm9
    · rw [f156 _ (by omega), f145 _ (by omega), c134 m9 i9 (by omega) (by omega), f123 _ (by omega), f112 _ (by omega), f101 _ (by omega), f90 _ (by omega), f79 _ (by omega), f68 _ (by omega), f57 _ (by omega), f46 _ (by omega), f35 _ (by omega), f24 _ (by omega), fp13 _ (by omega), fp5 _ (by omega)]; exact cl_bf hC hm9 hi9
    · rw [f156 _ (by omega), c145 m9 i9 (by omega) (by omega), f134 _ (by omega), f123 _ (by omega), f112 _ (by omega), f101 _ (by omega), f90 _ (by omega), f79 _ (by omega), f68 _ (by omega), f57 _ (by omega), f46 _ (by omega), f35 _ (by omega), f24 _ (by omega), fp13 _ (by omega), fp5 _ (by omega)]; exact cl_bb hC hm9 hi9
  · have hmn := x_mn hw hm9
    have hO := c_R_O hC
    refine ⟨?_, fun p9 hp9 => ?_⟩
    · show _ = _
      rw [show o0 + 35 = o0 + 34 + 1 by omega, c156.1 m9 hm9, f145 _ (by omega), f134 _ (by omega), f123 _ (by omega), f112 _ (by omega), f101 _ (by omega), f90 _ (by omega), f79 _ (by omega), f68 _ (by omega), f57 _ (by omega), f46 _ (by omega), f35 _ (by omega), f24 _ (by omega), fp13 _ (by omega), fp5 _ (by omega)]; exact co_on hO hm9
    · rw [show o0 + 37 + m9 = o0 + 34 + 3 + m9 by omega, c156.2 m9 p9 hm9 (by omega), f145 _ (by omega), f134 _ (by omega), f123 _ (by omega), f112 _ (by omega), f101 _ (by omega), f90 _ (by omega), f79 _ (by omega), f68 _ (by omega), f57 _ (by omega), f46 _ (by omega), f35 _ (by omega), f24 _ (by omega), fp13 _ (by omega), fp5 _ (by omega)]; exact co_ord hO hm9 hp9
  · intro q hq
    rw [f156 q (by omega), f145 q (by omega), f134 q (by omega), f123 q (by omega), f112 q (by omega), f101 q (by omega), f90 q (by omega), f79 q (by omega), f68 q (by omega), f57 q (by omega), f46 q (by omega), f35 q (by omega), f24 q (by omega), fp13 q (by omega), fp5 q (by omega)]
