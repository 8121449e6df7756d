/-! ===== the class's Timetable: isNext, clear ===== -/
set_option maxRecDepth 20000 in
set_option maxHeartbeats 1000000 in
theorem c_isNext {G : q_G} {s : s_T} {X : x_T} {o h k rdm : Nat} {b : Bool} (ho : isX7 o) (hh : isX10 h) (hC : c_R X s o) (hw : x_wf X) (hk1 : k < X 1) (hrd : s (h + 7) (X (62 + k)) = nI rdm) (hrdb : rdm ≤ 20) (hopn : s (h + 5) (X (62 + k)) = bI b) : s_W G mX10_isNext 1 0 0 (c_I (fun y9 s1 => s1 = s ∧ y9 = bI (b || decide (rdm < X (179 + X (62 + k)) ∧ X (183 + 5 * X (62 + k) + rdm) = k)))) 0 (q_ent mX10_isNext [.ref h, .ref o, .int (nI k)]) [] s := by
  show s_W G mX10_isNext 1 0 0 _ 0 [some (.ref h), some (.ref o), some (.int (nI k)), none, none] [] s
  have hz := x_sz hw
  have hk2 := x_op hw hk1
  have hmn := x_mn hw hk2.2.2.2.2.2.2.1
  have hO := c_R_O hC
  refine r_aload_n dX10_isNext_0 rfl rfl ?_
  refine s_getR dX10_isNext_1 fX10_86 (layX7 ho) rfl ?_
  refine r_iload_n dX10_isNext_4 rfl rfl ?_
  refine a_ld dX10_isNext_5 (X7_machineOf ho) (by omega) (by decide) (cl_mc hC (by omega)) ?_
  refine r_istore_n dX10_isNext_6 rfl (by decide) rfl ?_
  refine r_aload_n dX10_isNext_7 rfl rfl ?_
  refine s_getR dX10_isNext_8 fX10_31 (layX10 hh) rfl ?_
  refine r_iload_n dX10_isNext_11 rfl rfl ?_
  refine a_ld dX10_isNext_12 (X10_rowDone hh) (by omega) (by decide) hrd ?_
  refine r_istore dX10_isNext_13 (by decide) rfl ?_
  refine r_aload_n dX10_isNext_15 rfl rfl ?_
  refine s_getR dX10_isNext_16 fX10_24 (layX10 hh) rfl ?_
  refine r_iload_n dX10_isNext_19 rfl rfl ?_
  refine a_zld dX10_isNext_20 (X10_open hh) (by omega) (by decide) hopn ?_
  refine b_ifne (tgt := 54) dX10_isNext_21 (by decide) (fun c21 => ?_) (fun c21 => ?_)
  · refine n_const 1 dX10_isNext_54 (by decide) ?_
    refine r_goto (tgt := 59) dX10_isNext_55 (by decide) ?_
    refine s_iret dX10_isNext_59 rfl rfl ?_
    refine ⟨_, rfl, rfl, ?_⟩
    first
      | (subst c21; rfl)
      | (subst c21; rw [Bool.false_or, decide_eq_true ⟨c35, c51⟩]; rfl)
      | (subst c21; rw [Bool.false_or, decide_eq_false (fun q => c51 q.2)]; rfl)
      | (subst c21; rw [Bool.false_or, decide_eq_false (fun q => absurd q.1 (by omega))]; rfl)
  · refine r_iload dX10_isNext_24 rfl ?_
    refine r_aload_n dX10_isNext_26 rfl rfl ?_
    refine s_getR dX10_isNext_27 fX10_89 (layX7 ho) rfl ?_
    refine s_getR dX10_isNext_30 fX10_93 (layX5 (X7_orders ho)) rfl ?_
    refine r_iload_n dX10_isNext_33 rfl rfl ?_
    refine a_ld dX10_isNext_34 (X5_sizes (X7_orders ho)) (by omega) (by decide) (co_on hO (by omega)) ?_
    refine n_cge (tgt := 58) dX10_isNext_35 (by decide) (by omega) (by omega) (fun c35 => ?_) (fun c35 => ?_)
    · refine n_const 0 dX10_isNext_58 (by decide) ?_
      refine s_iret dX10_isNext_59 rfl rfl ?_
      refine ⟨_, rfl, rfl, ?_⟩
      first
        | (subst c21; rfl)
        | (subst c21; rw [Bool.false_or, decide_eq_true ⟨c35, c51⟩]; rfl)
        | (subst c21; rw [Bool.false_or, decide_eq_false (fun q => c51 q.2)]; rfl)
        | (subst c21; rw [Bool.false_or, decide_eq_false (fun q => absurd q.1 (by omega))]; rfl)
    · have hod := x_od hw hk2.2.2.2.2.2.2.1 c35
      refine r_aload_n dX10_isNext_38 rfl rfl ?_
      refine s_getR dX10_isNext_39 fX10_89 (layX7 ho) rfl ?_
      refine s_getR dX10_isNext_42 fX10_98 (layX5 (X7_orders ho)) rfl ?_
      refine r_iload_n dX10_isNext_45 rfl rfl ?_
      refine a_ald dX10_isNext_46 (X5_rows (X7_orders ho)) (by omega) (by decide) ?_
      refine r_iload dX10_isNext_47 rfl ?_
      refine a_ld dX10_isNext_49 (X5_rows_row (X7_orders ho) (by omega)) (by omega) (by decide) (co_ord hO (by omega) (by omega)) ?_
      refine r_iload_n dX10_isNext_50 rfl rfl ?_
      refine n_cne (tgt := 58) dX10_isNext_51 (by decide) (by omega) (by omega) (fun c51 => ?_) (fun c51 => ?_)
      · refine n_const 0 dX10_isNext_58 (by decide) ?_
        refine s_iret dX10_isNext_59 rfl rfl ?_
        refine ⟨_, rfl, rfl, ?_⟩
        first
          | (subst c21; rfl)
          | (subst c21; rw [Bool.false_or, decide_eq_true ⟨c35, c51⟩]; rfl)
          | (subst c21; rw [Bool.false_or, decide_eq_false (fun q => c51 q.2)]; rfl)
          | (subst c21; rw [Bool.false_or, decide_eq_false (fun q => absurd q.1 (by omega))]; rfl)
      · refine n_const 1 dX10_isNext_54 (by decide) ?_
        refine r_goto (tgt := 59) dX10_isNext_55 (by decide) ?_
        refine s_iret dX10_isNext_59 rfl rfl ?_
        refine ⟨_, rfl, rfl, ?_⟩
        first
          | (subst c21; rfl)
          | (subst c21; rw [Bool.false_or, decide_eq_true ⟨c35, c51⟩]; rfl)
          | (subst c21; rw [Bool.false_or, decide_eq_false (fun q => c51 q.2)]; rfl)
          | (subst c21; rw [Bool.false_or, decide_eq_false (fun q => absurd q.1 (by omega))]; rfl)
set_option maxRecDepth 20000 in
set_option maxHeartbeats 1000000 in
theorem c_clear {G : q_G} {s : s_T} {h : Nat} (hh : isX10 h) : s_W G mX10_clear 1 0 0 (c_V (fun s1 => (s1 h 5 = nI 0 ∧ s1 h 6 = nI 0 ∧ s1 h 9 = s h 9 ∧ s1 h 10 = s h 10 ∧ s1 (h + 5) = s (h + 5) ∧ s_fr h (h + 8) s s1) ∧ (∀ j, j < 5 → s1 (h + 6) j = nI 0) ∧ (∀ m, m < 4 → s1 (h + 7) m = nI 0))) 0 (q_ent mX10_clear [.ref h]) [] s := by
  show s_W G mX10_clear 1 0 0 _ 0 [some (.ref h), none] [] s
  have hh3 := o10_le hh
  have l2 : ∀ f i s1, (s1 h 5 = nI 0 ∧ s1 h 6 = nI 0 ∧ s1 h 9 = s h 9 ∧ s1 h 10 = s h 10 ∧ s1 (h + 5) = s (h + 5) ∧ s_fr h (h + 8) s s1) → (∀ j, j < 5 → s1 (h + 6) j = nI 0) → (∀ m, m < i → s1 (h + 7) m = nI 0) → i ≤ 4 → 4 < i + f → s_W G mX10_clear 1 0 0 (c_V (fun s1 => (s1 h 5 = nI 0 ∧ s1 h 6 = nI 0 ∧ s1 h 9 = s h 9 ∧ s1 h 10 = s h 10 ∧ s1 (h + 5) = s (h + 5) ∧ s_fr h (h + 8) s s1) ∧ (∀ j, j < 5 → s1 (h + 6) j = nI 0) ∧ (∀ m, m < 4 → s1 (h + 7) m = nI 0))) 32 [some (.ref h), some (.int (nI i))] [] s1 := by
    intro f
    induction f with
    | zero =>
      intro i s1 hq hA hB hi hme
      exact absurd hme (by omega)
    | succ f ih2 =>
      intro i s1 hq hA hB hi hme
      refine r_iload_n dX10_clear_32 rfl rfl ?_
      refine n_const 4 dX10_clear_33 (by decide) ?_
      refine n_cge (tgt := 50) dX10_clear_34 (by decide) (by omega) (by omega) (fun c34 => ?_) (fun c34 => ?_)
      · refine s_vret dX10_clear_50 rfl ?_
        exact ⟨rfl, hq, hA, fun m hm => hB m (by omega)⟩
      · refine r_aload_n dX10_clear_37 rfl rfl ?_
        refine s_getR dX10_clear_38 fX10_31 (layX10 hh) rfl ?_
        refine r_iload_n dX10_clear_41 rfl rfl ?_
        refine n_const 0 dX10_clear_42 (by decide) ?_
        refine a_st dX10_clear_43 (X10_rowDone hh) (by omega) (by decide) (fun s2 hs2 hf2 => ?_)
        have hq2 : s_fr h (h + 8) s s2 := s_fr_tr hq.2.2.2.2.2 (s_fr_w hf2 (by omega) (by omega))
        have hq3 : s2 h 5 = nI 0 ∧ s2 h 6 = nI 0 ∧ s2 h 9 = s h 9 ∧ s2 h 10 = s h 10 ∧ s2 (h + 5) = s (h + 5) ∧ s_fr h (h + 8) s s2 := by rw [hf2 h (by omega), hf2 (h + 5) (by omega)]; exact ⟨hq.1, hq.2.1, hq.2.2.1, hq.2.2.2.1, hq.2.2.2.2.1, hq2⟩
        refine n_inc dX10_clear_44 rfl (n_i1 _) (by decide) rfl ?_
        refine r_goto (tgt := 32) dX10_clear_47 (by decide) ?_
        refine ih2 _ _ hq3 (fun j hj => by rw [hf2 (h + 6) (by omega)]; exact hA j hj) (fun m hm => ?_) (by omega) (by omega)
        rw [hs2]
        by_cases e : m = i
        · subst e; rw [pk_us]
        · rw [pk_un e]; exact hB m (by omega)
  have l1 : ∀ f i s1, (s1 h 5 = nI 0 ∧ s1 h 6 = nI 0 ∧ s1 h 9 = s h 9 ∧ s1 h 10 = s h 10 ∧ s1 (h + 5) = s (h + 5) ∧ s_fr h (h + 8) s s1) → (∀ j, j < i → s1 (h + 6) j = nI 0) → i ≤ 5 → 5 < i + f → s_W G mX10_clear 1 0 0 (c_V (fun s1 => (s1 h 5 = nI 0 ∧ s1 h 6 = nI 0 ∧ s1 h 9 = s h 9 ∧ s1 h 10 = s h 10 ∧ s1 (h + 5) = s (h + 5) ∧ s_fr h (h + 8) s s1) ∧ (∀ j, j < 5 → s1 (h + 6) j = nI 0) ∧ (∀ m, m < 4 → s1 (h + 7) m = nI 0))) 12 [some (.ref h), some (.int (nI i))] [] s1 := by
    intro f
    induction f with
    | zero =>
      intro i s1 hq hA hi hme
      exact absurd hme (by omega)
    | succ f ih =>
      intro i s1 hq hA hi hme
      refine r_iload_n dX10_clear_12 rfl rfl ?_
      refine n_const 5 dX10_clear_13 (by decide) ?_
      refine n_cge (tgt := 30) dX10_clear_14 (by decide) (by omega) (by omega) (fun c14 => ?_) (fun c14 => ?_)
      · refine n_const 0 dX10_clear_30 (by decide) ?_
        refine r_istore_n dX10_clear_31 rfl (by decide) rfl ?_
        exact l2 5 0 s1 hq (fun j hj => hA j (by omega)) (fun m hm => absurd hm (by omega)) (by omega) (by omega)
      · refine r_aload_n dX10_clear_17 rfl rfl ?_
        refine s_getR dX10_clear_18 fX10_28 (layX10 hh) rfl ?_
        refine r_iload_n dX10_clear_21 rfl rfl ?_
        refine n_const 0 dX10_clear_22 (by decide) ?_
        refine a_st dX10_clear_23 (X10_stepsDone hh) (by omega) (by decide) (fun s2 hs2 hf2 => ?_)
        have hq2 : s_fr h (h + 8) s s2 := s_fr_tr hq.2.2.2.2.2 (s_fr_w hf2 (by omega) (by omega))
        have hq3 : s2 h 5 = nI 0 ∧ s2 h 6 = nI 0 ∧ s2 h 9 = s h 9 ∧ s2 h 10 = s h 10 ∧ s2 (h + 5) = s (h + 5) ∧ s_fr h (h + 8) s s2 := by rw [hf2 h (by omega), hf2 (h + 5) (by omega)]; exact ⟨hq.1, hq.2.1, hq.2.2.1, hq.2.2.2.1, hq.2.2.2.2.1, hq2⟩
        refine n_inc dX10_clear_24 rfl (n_i1 _) (by decide) rfl ?_
        refine r_goto (tgt := 12) dX10_clear_27 (by decide) ?_
        refine ih _ _ hq3 (fun m hm => ?_) (by omega) (by omega)
        rw [hs2]
        by_cases e : m = i
        · subst e; rw [pk_us]
        · rw [pk_un e]; exact hA m (by omega)
  refine r_aload_n dX10_clear_0 rfl rfl ?_
  refine n_const 0 dX10_clear_1 (by decide) ?_
  refine a_put dX10_clear_2 gX10_41 (layX10 hh) rfl rfl rfl (fun s1 hs1 hf1 => ?_)
  refine r_aload_n dX10_clear_5 rfl rfl ?_
  refine n_const 0 dX10_clear_6 (by decide) ?_
  refine a_put dX10_clear_7 gX10_83 (layX10 hh) rfl rfl rfl (fun s2 hs2 hf2 => ?_)
  refine n_const 0 dX10_clear_10 (by decide) ?_
  refine r_istore_n dX10_clear_11 rfl (by decide) rfl ?_
  refine l1 6 0 s2 ⟨?_, ?_, ?_, ?_, ?_, ?_⟩ (fun j hj => absurd hj (by omega)) (by omega) (by omega)
  · rw [hs2, pk_un (by decide), hs1, pk_us]
  · rw [hs2, pk_us]
  · rw [hs2, pk_un (by decide), hs1, pk_un (by decide)]
  · rw [hs2, pk_un (by decide), hs1, pk_un (by decide)]
  · rw [hf2 (h + 5) (by omega), hf1 (h + 5) (by omega)]
  · exact s_fr_tr (s_fr_w hf1 (by omega) (by omega)) (s_fr_w hf2 (by omega) (by omega))
