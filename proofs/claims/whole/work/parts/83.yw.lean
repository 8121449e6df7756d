/-! ===== what holds of a shop whose orders are not yet all built ===== -/
def y_wf (X : x_T) : Prop :=
  (X 0 ≤ 5 ∧ X 1 ≤ 20) ∧ (∀ j, j < X 0 → X (2 + j) ≤ 99 ∧ X (7 + j) ≤ 200 ∧ X (12 + j) ≤ 9 ∧ X (17 + j) ≤ 4) ∧
  (∀ j i, j < X 0 → i < X (17 + j) → X (22 + 4 * j + i) < X 1 ∧ X (42 + X (22 + 4 * j + i)) = j ∧ X (122 + X (22 + 4 * j + i)) = i) ∧
  (∀ o, o < X 1 → X (42 + o) < X 0 ∧ X (122 + o) < X (17 + X (42 + o)) ∧ X (22 + 4 * X (42 + o) + X (122 + o)) = o ∧ X (62 + o) < 4 ∧ 1 ≤ X (82 + o) ∧ X (82 + o) ≤ 30 ∧ X (102 + o) < 3) ∧
  (∀ o o', o < X 1 → o' < X 1 → X (42 + o) = X (42 + o') → X (62 + o) = X (62 + o') → o = o') ∧
  (∀ f g, f < 3 → g < 3 → X (142 + 3 * f + g) ≤ 9) ∧
  (∀ m, m < 4 → X (151 + m) ≤ 3 ∧ ∀ i, i < X (151 + m) → X (155 + 3 * m + i) ≤ 400 ∧ 1 ≤ X (167 + 3 * m + i) ∧ X (167 + 3 * m + i) ≤ 60) ∧
  (∀ m, m < 4 → X (179 + m) ≤ 5)
theorem x_wf_y {X : x_T} (h : x_wf X) : y_wf X := ⟨⟨h.1, h.2.1⟩, h.2.2.1, h.2.2.2.1, h.2.2.2.2.1, h.2.2.2.2.2.1, h.2.2.2.2.2.2.1, h.2.2.2.2.2.2.2.1, fun m hm => (x_mn h hm).2⟩
theorem y_sz {X : x_T} (h : y_wf X) : X 0 ≤ 5 ∧ X 1 ≤ 20 := h.1
theorem y_jb {X : x_T} (h : y_wf X) {j : Nat} (hj : j < X 0) : X 0 ≤ 5 ∧ X 1 ≤ 20 ∧ X (2 + j) ≤ 99 ∧ X (7 + j) ≤ 200 ∧ X (12 + j) ≤ 9 ∧ X (17 + j) ≤ 4 := ⟨h.1.1, h.1.2, h.2.1 j hj⟩
theorem y_op {X : x_T} (h : y_wf X) {o : Nat} (ho : o < X 1) : X 0 ≤ 5 ∧ X 1 ≤ 20 ∧ X (42 + o) < X 0 ∧ X (122 + o) < X (17 + X (42 + o)) ∧ X (17 + X (42 + o)) ≤ 4 ∧ X (22 + 4 * X (42 + o) + X (122 + o)) = o ∧ X (62 + o) < 4 ∧ 1 ≤ X (82 + o) ∧ X (82 + o) ≤ 30 ∧ X (102 + o) < 3 := by
  have q := h.2.2.2.1 o ho
  exact ⟨h.1.1, h.1.2, q.1, q.2.1, (h.2.1 _ q.1).2.2.2, q.2.2⟩
theorem y_rt {X : x_T} (h : y_wf X) {j i : Nat} (hj : j < X 0) (hi : i < X (17 + j)) : X (22 + 4 * j + i) < X 1 ∧ X (42 + X (22 + 4 * j + i)) = j ∧ X (122 + X (22 + 4 * j + i)) = i := h.2.2.1 j i hj hi
theorem y_uq {X : x_T} (h : y_wf X) {a b : Nat} (ha : a < X 1) (hb : b < X 1) (h1 : X (42 + a) = X (42 + b)) (h2 : X (62 + a) = X (62 + b)) : a = b := h.2.2.2.2.1 a b ha hb h1 h2
theorem y_su {X : x_T} (h : y_wf X) {f g : Nat} (hf : f < 3) (hg : g < 3) : X (142 + 3 * f + g) ≤ 9 := h.2.2.2.2.2.1 f g hf hg
theorem y_mn {X : x_T} (h : y_wf X) {m : Nat} (hm : m < 4) : X (151 + m) ≤ 3 ∧ X (179 + m) ≤ 5 := ⟨(h.2.2.2.2.2.2.1 m hm).1, h.2.2.2.2.2.2.2 m hm⟩
theorem y_br {X : x_T} (h : y_wf X) {m i : Nat} (hm : m < 4) (hi : i < X (151 + m)) : X (155 + 3 * m + i) ≤ 400 ∧ 1 ≤ X (167 + 3 * m + i) ∧ X (167 + 3 * m + i) ≤ 60 := (h.2.2.2.2.2.2.1 m hm).2 i hi
theorem y_fr_le {X : x_T} (hw : y_wf X) {m d t B : Nat} (hm : m < 4) (hB : 460 ≤ B) (ht : t ≤ B) : x_fr X m d t ≤ B := x_rn_le (fun j hj => by have := y_br hw hm hj; omega) _ _ ht
theorem y_wf_eq {X X' : x_T} (h : y_wf X) (e : ∀ k, k < 179 → X' k = X k) (h5 : ∀ m, m < 4 → X' (179 + m) ≤ 5) : y_wf X' := by
  have hs := y_sz h
  refine ⟨⟨by rw [e 0 (by omega)]; exact hs.1, by rw [e 1 (by omega)]; exact hs.2⟩, fun j hj => ?_, fun j i hj hi => ?_, fun o ho => ?_, fun a b ha hb h1 h2 => ?_, fun f g hf hg => ?_, fun m hm => ?_, h5⟩
  · rw [e 0 (by omega)] at hj
    rw [e _ (by omega), e _ (by omega), e _ (by omega), e _ (by omega)]
    exact h.2.1 j hj
  · rw [e 0 (by omega)] at hj
    have hjb := y_jb h hj
    rw [e (17 + j) (by omega)] at hi
    have hr := y_rt h hj hi
    rw [e (22 + 4 * j + i) (by omega), e 1 (by omega), e (42 + _) (by omega), e (122 + _) (by omega)]
    exact hr
  · rw [e 1 (by omega)] at ho
    have hp := y_op h ho
    rw [e (42 + o) (by omega), e (122 + o) (by omega), e (17 + _) (by omega), e (22 + 4 * _ + _) (by omega), e (62 + o) (by omega), e (82 + o) (by omega), e (102 + o) (by omega), e 0 (by omega)]
    exact h.2.2.2.1 o ho
  · rw [e 1 (by omega)] at ha hb
    rw [e _ (by omega), e _ (by omega)] at h1 h2
    exact y_uq h ha hb h1 h2
  · rw [e _ (by omega)]; exact y_su h hf hg
  · have hb := y_mn h hm
    rw [e (151 + m) (by omega)]
    refine ⟨hb.1, fun i hi => ?_⟩
    rw [e _ (by omega), e _ (by omega)]
    exact y_br h hm hi
set_option maxRecDepth 20000 in
set_option maxHeartbeats 1000000 in
theorem d_readyTime {G : q_G} {s : s_T} {X : x_T} {o k ke a b : Nat} {bf : Option Nat} (ho : isX7 o) (hC : c_R X s o) (hw : y_wf X) (hk : k < X 1) (hl : q_lay ke = .inl (0, 20, none)) (ha : 0 < X (122 + k) → s ke (X (22 + 4 * X (42 + k) + (X (122 + k) - 1))) = nI a) (hb : ∀ q, bf = some q → q < X 1 ∧ s ke q = nI b) (ha2 : a < 1000000) (hb2 : b < 1000000) : s_W G mX7_readyTime 1 0 0 (c_I (fun y9 s1 => s1 = s ∧ y9 = nI (max (if X (122 + k) = 0 then X (2 + X (42 + k)) else a) (match bf with | none => 0 | some q => b + X (142 + 3 * X (102 + q) + X (102 + k)))))) 0 (q_ent mX7_readyTime [.ref o, .int (nI k), .int (oI bf), .ref ke]) [] s := by
  show s_W G mX7_readyTime 1 0 0 _ 0 [some (.ref o), some (.int (nI k)), some (.int (oI bf)), some (.ref ke), none, none, none, none] [] s
  have hk2 := y_op hw hk
  have hj2 := y_jb hw hk2.2.2.1
  have hz := y_sz hw
  cases bf with
  | none =>
    refine r_aload_n dX7_readyTime_0 rfl rfl ?_
    refine s_getR dX7_readyTime_1 fX7_23 (layX7 ho) rfl ?_
    refine r_iload_n dX7_readyTime_4 rfl rfl ?_
    refine a_ld dX7_readyTime_5 (X7_jobOf ho) (by omega) (by decide) (cl_job hC (by omega)) ?_
    refine r_istore dX7_readyTime_6 (by decide) rfl ?_
    refine r_aload_n dX7_readyTime_8 rfl rfl ?_
    refine s_getR dX7_readyTime_9 fX7_35 (layX7 ho) rfl ?_
    refine r_iload_n dX7_readyTime_12 rfl rfl ?_
    refine a_ld dX7_readyTime_13 (X7_stepOf ho) (by omega) (by decide) (cl_st hC (by omega)) ?_
    refine r_istore dX7_readyTime_14 (by decide) rfl ?_
    refine r_iload dX7_readyTime_16 rfl ?_
    refine n_ifle (tgt := 38) dX7_readyTime_18 (by decide) (by omega) (fun c18 => ?_) (fun c18 => ?_)
    · refine r_aload_n dX7_readyTime_38 rfl rfl ?_
      refine s_getR dX7_readyTime_39 fX7_11 (layX7 ho) rfl ?_
      refine r_iload dX7_readyTime_42 rfl ?_
      refine a_ald dX7_readyTime_44 (X7_jobData ho) (by omega) (by decide) ?_
      refine n_const 0 dX7_readyTime_45 (by decide) ?_
      refine a_ld dX7_readyTime_46 (X7_jobData_row ho (by omega)) (by omega) (by decide) (cl_rel hC (by omega)) ?_
      refine r_istore dX7_readyTime_47 (by decide) rfl ?_
      refine r_iload_n dX7_readyTime_49 rfl rfl ?_
      refine r_iconst (v := -1) dX7_readyTime_50 (by decide) ?_
      refine r_icmp_ne (tgt := 58) dX7_readyTime_51 (by decide) (fun c51 => ?_) (fun c51 => ?_)
      · exact absurd rfl c51
      · refine n_const 0 dX7_readyTime_54 (by decide) ?_
        refine r_goto (tgt := 80) dX7_readyTime_55 (by decide) ?_
        refine r_istore dX7_readyTime_80 (by decide) rfl ?_
        refine r_iload dX7_readyTime_82 rfl ?_
        refine r_iload dX7_readyTime_84 rfl ?_
        refine n_cle (tgt := 94) dX7_readyTime_86 (by decide) (by omega) (by omega) (fun c86 => ?_) (fun c86 => ?_)
        · refine r_iload dX7_readyTime_94 rfl ?_
          refine s_iret dX7_readyTime_96 rfl rfl ?_
          refine ⟨_, rfl, rfl, ?_⟩
          congr 1
          first
            | (rw [if_pos (by omega)]; dsimp only; omega)
            | (rw [if_neg (by omega)]; dsimp only; omega)
        · refine r_iload dX7_readyTime_89 rfl ?_
          refine r_goto (tgt := 96) dX7_readyTime_91 (by decide) ?_
          refine s_iret dX7_readyTime_96 rfl rfl ?_
          refine ⟨_, rfl, rfl, ?_⟩
          congr 1
          first
            | (rw [if_pos (by omega)]; dsimp only; omega)
            | (rw [if_neg (by omega)]; dsimp only; omega)
    · have hr1 := y_rt hw hk2.2.2.1 (i := X (122 + k) - 1) (by omega)
      refine r_aload_n dX7_readyTime_21 rfl rfl ?_
      refine r_aload_n dX7_readyTime_22 rfl rfl ?_
      refine s_getR dX7_readyTime_23 fX7_20 (layX7 ho) rfl ?_
      refine r_iload dX7_readyTime_26 rfl ?_
      refine a_ald dX7_readyTime_28 (X7_routes ho) (by omega) (by decide) ?_
      refine r_iload dX7_readyTime_29 rfl ?_
      refine n_const 1 dX7_readyTime_31 (by decide) ?_
      refine n_sub dX7_readyTime_32 (by omega) ?_
      refine a_ld dX7_readyTime_33 (X7_routes_row ho (by omega)) (by omega) (by decide) (cl_rt hC (by omega) (by omega)) ?_
      refine a_ld dX7_readyTime_34 hl (by omega) (by decide) (ha (by omega)) ?_
      refine r_goto (tgt := 47) dX7_readyTime_35 (by decide) ?_
      refine r_istore dX7_readyTime_47 (by decide) rfl ?_
      refine r_iload_n dX7_readyTime_49 rfl rfl ?_
      refine r_iconst (v := -1) dX7_readyTime_50 (by decide) ?_
      refine r_icmp_ne (tgt := 58) dX7_readyTime_51 (by decide) (fun c51 => ?_) (fun c51 => ?_)
      · exact absurd rfl c51
      · refine n_const 0 dX7_readyTime_54 (by decide) ?_
        refine r_goto (tgt := 80) dX7_readyTime_55 (by decide) ?_
        refine r_istore dX7_readyTime_80 (by decide) rfl ?_
        refine r_iload dX7_readyTime_82 rfl ?_
        refine r_iload dX7_readyTime_84 rfl ?_
        refine n_cle (tgt := 94) dX7_readyTime_86 (by decide) (by omega) (by omega) (fun c86 => ?_) (fun c86 => ?_)
        · refine r_iload dX7_readyTime_94 rfl ?_
          refine s_iret dX7_readyTime_96 rfl rfl ?_
          refine ⟨_, rfl, rfl, ?_⟩
          congr 1
          first
            | (rw [if_pos (by omega)]; dsimp only; omega)
            | (rw [if_neg (by omega)]; dsimp only; omega)
        · refine r_iload dX7_readyTime_89 rfl ?_
          refine r_goto (tgt := 96) dX7_readyTime_91 (by decide) ?_
          refine s_iret dX7_readyTime_96 rfl rfl ?_
          refine ⟨_, rfl, rfl, ?_⟩
          congr 1
          first
            | (rw [if_pos (by omega)]; dsimp only; omega)
            | (rw [if_neg (by omega)]; dsimp only; omega)
  | some q =>
    obtain ⟨hq1, hb1⟩ := (hb q rfl)
    have hb1 := hb q rfl
    have hq2 := y_op hw hq1
    have hs2 := y_su hw (f := X (102 + q)) (g := X (102 + k)) (by omega) (by omega)
    refine r_aload_n dX7_readyTime_0 rfl rfl ?_
    refine s_getR dX7_readyTime_1 fX7_23 (layX7 ho) rfl ?_
    refine r_iload_n dX7_readyTime_4 rfl rfl ?_
    refine a_ld dX7_readyTime_5 (X7_jobOf ho) (by omega) (by decide) (cl_job hC (by omega)) ?_
    refine r_istore dX7_readyTime_6 (by decide) rfl ?_
    refine r_aload_n dX7_readyTime_8 rfl rfl ?_
    refine s_getR dX7_readyTime_9 fX7_35 (layX7 ho) rfl ?_
    refine r_iload_n dX7_readyTime_12 rfl rfl ?_
    refine a_ld dX7_readyTime_13 (X7_stepOf ho) (by omega) (by decide) (cl_st hC (by omega)) ?_
    refine r_istore dX7_readyTime_14 (by decide) rfl ?_
    refine r_iload dX7_readyTime_16 rfl ?_
    refine n_ifle (tgt := 38) dX7_readyTime_18 (by decide) (by omega) (fun c18 => ?_) (fun c18 => ?_)
    · refine r_aload_n dX7_readyTime_38 rfl rfl ?_
      refine s_getR dX7_readyTime_39 fX7_11 (layX7 ho) rfl ?_
      refine r_iload dX7_readyTime_42 rfl ?_
      refine a_ald dX7_readyTime_44 (X7_jobData ho) (by omega) (by decide) ?_
      refine n_const 0 dX7_readyTime_45 (by decide) ?_
      refine a_ld dX7_readyTime_46 (X7_jobData_row ho (by omega)) (by omega) (by decide) (cl_rel hC (by omega)) ?_
      refine r_istore dX7_readyTime_47 (by decide) rfl ?_
      refine r_iload_n dX7_readyTime_49 rfl rfl ?_
      refine r_iconst (v := -1) dX7_readyTime_50 (by decide) ?_
      refine r_icmp_ne (tgt := 58) dX7_readyTime_51 (by decide) (fun c51 => ?_) (fun c51 => ?_)
      · refine r_aload_n dX7_readyTime_58 rfl rfl ?_
        refine r_iload_n dX7_readyTime_59 rfl rfl ?_
        refine a_ld dX7_readyTime_60 hl (by omega) (by decide) hb1.2 ?_
        refine r_aload_n dX7_readyTime_61 rfl rfl ?_
        refine s_getR dX7_readyTime_62 fX7_38 (layX7 ho) rfl ?_
        refine r_aload_n dX7_readyTime_65 rfl rfl ?_
        refine s_getR dX7_readyTime_66 fX7_32 (layX7 ho) rfl ?_
        refine r_iload_n dX7_readyTime_69 rfl rfl ?_
        refine a_ld dX7_readyTime_70 (X7_families ho) (by omega) (by decide) (cl_fa hC (by omega)) ?_
        refine a_ald dX7_readyTime_71 (X7_setups ho) (by omega) (by decide) ?_
        refine r_aload_n dX7_readyTime_72 rfl rfl ?_
        refine s_getR dX7_readyTime_73 fX7_32 (layX7 ho) rfl ?_
        refine r_iload_n dX7_readyTime_76 rfl rfl ?_
        refine a_ld dX7_readyTime_77 (X7_families ho) (by omega) (by decide) (cl_fa hC (by omega)) ?_
        refine a_ld dX7_readyTime_78 (X7_setups_row ho (by omega)) (by omega) (by decide) (cl_su hC (by omega) (by omega)) ?_
        refine n_add dX7_readyTime_79 ?_
        refine r_istore dX7_readyTime_80 (by decide) rfl ?_
        refine r_iload dX7_readyTime_82 rfl ?_
        refine r_iload dX7_readyTime_84 rfl ?_
        refine n_cle (tgt := 94) dX7_readyTime_86 (by decide) (by omega) (by omega) (fun c86 => ?_) (fun c86 => ?_)
        · refine r_iload dX7_readyTime_94 rfl ?_
          refine s_iret dX7_readyTime_96 rfl rfl ?_
          refine ⟨_, rfl, rfl, ?_⟩
          congr 1
          first
            | (rw [if_pos (by omega)]; dsimp only; omega)
            | (rw [if_neg (by omega)]; dsimp only; omega)
        · refine r_iload dX7_readyTime_89 rfl ?_
          refine r_goto (tgt := 96) dX7_readyTime_91 (by decide) ?_
          refine s_iret dX7_readyTime_96 rfl rfl ?_
          refine ⟨_, rfl, rfl, ?_⟩
          congr 1
          first
            | (rw [if_pos (by omega)]; dsimp only; omega)
            | (rw [if_neg (by omega)]; dsimp only; omega)
      · exact absurd c51 (nI_m1 (by omega))
    · have hr1 := y_rt hw hk2.2.2.1 (i := X (122 + k) - 1) (by omega)
      refine r_aload_n dX7_readyTime_21 rfl rfl ?_
      refine r_aload_n dX7_readyTime_22 rfl rfl ?_
      refine s_getR dX7_readyTime_23 fX7_20 (layX7 ho) rfl ?_
      refine r_iload dX7_readyTime_26 rfl ?_
      refine a_ald dX7_readyTime_28 (X7_routes ho) (by omega) (by decide) ?_
      refine r_iload dX7_readyTime_29 rfl ?_
      refine n_const 1 dX7_readyTime_31 (by decide) ?_
      refine n_sub dX7_readyTime_32 (by omega) ?_
      refine a_ld dX7_readyTime_33 (X7_routes_row ho (by omega)) (by omega) (by decide) (cl_rt hC (by omega) (by omega)) ?_
      refine a_ld dX7_readyTime_34 hl (by omega) (by decide) (ha (by omega)) ?_
      refine r_goto (tgt := 47) dX7_readyTime_35 (by decide) ?_
      refine r_istore dX7_readyTime_47 (by decide) rfl ?_
      refine r_iload_n dX7_readyTime_49 rfl rfl ?_
      refine r_iconst (v := -1) dX7_readyTime_50 (by decide) ?_
      refine r_icmp_ne (tgt := 58) dX7_readyTime_51 (by decide) (fun c51 => ?_) (fun c51 => ?_)
      · refine r_aload_n dX7_readyTime_58 rfl rfl ?_
        refine r_iload_n dX7_readyTime_59 rfl rfl ?_
        refine a_ld dX7_readyTime_60 hl (by omega) (by decide) hb1.2 ?_
        refine r_aload_n dX7_readyTime_61 rfl rfl ?_
        refine s_getR dX7_readyTime_62 fX7_38 (layX7 ho) rfl ?_
        refine r_aload_n dX7_readyTime_65 rfl rfl ?_
        refine s_getR dX7_readyTime_66 fX7_32 (layX7 ho) rfl ?_
        refine r_iload_n dX7_readyTime_69 rfl rfl ?_
        refine a_ld dX7_readyTime_70 (X7_families ho) (by omega) (by decide) (cl_fa hC (by omega)) ?_
        refine a_ald dX7_readyTime_71 (X7_setups ho) (by omega) (by decide) ?_
        refine r_aload_n dX7_readyTime_72 rfl rfl ?_
        refine s_getR dX7_readyTime_73 fX7_32 (layX7 ho) rfl ?_
        refine r_iload_n dX7_readyTime_76 rfl rfl ?_
        refine a_ld dX7_readyTime_77 (X7_families ho) (by omega) (by decide) (cl_fa hC (by omega)) ?_
        refine a_ld dX7_readyTime_78 (X7_setups_row ho (by omega)) (by omega) (by decide) (cl_su hC (by omega) (by omega)) ?_
        refine n_add dX7_readyTime_79 ?_
        refine r_istore dX7_readyTime_80 (by decide) rfl ?_
        refine r_iload dX7_readyTime_82 rfl ?_
        refine r_iload dX7_readyTime_84 rfl ?_
        refine n_cle (tgt := 94) dX7_readyTime_86 (by decide) (by omega) (by omega) (fun c86 => ?_) (fun c86 => ?_)
        · refine r_iload dX7_readyTime_94 rfl ?_
          refine s_iret dX7_readyTime_96 rfl rfl ?_
          refine ⟨_, rfl, rfl, ?_⟩
          congr 1
          first
            | (rw [if_pos (by omega)]; dsimp only; omega)
            | (rw [if_neg (by omega)]; dsimp only; omega)
        · refine r_iload dX7_readyTime_89 rfl ?_
          refine r_goto (tgt := 96) dX7_readyTime_91 (by decide) ?_
          refine s_iret dX7_readyTime_96 rfl rfl ?_
          refine ⟨_, rfl, rfl, ?_⟩
          congr 1
          first
            | (rw [if_pos (by omega)]; dsimp only; omega)
            | (rw [if_neg (by omega)]; dsimp only; omega)
      · exact absurd c51 (nI_m1 (by omega))
set_option maxRecDepth 20000 in
set_option maxHeartbeats 1000000 in
theorem d_startFrom {G : q_G} {s : s_T} {X : x_T} {o k t0 : Nat} (ho : isX7 o) (hC : c_R X s o) (hw : y_wf X) (hk : k < X 1) (ht0 : t0 ≤ 1000000) : s_W G mX7_startFrom 1 0 0 (c_I (fun x s1 => s1 = s ∧ x = nI (x_fr X (X (62 + k)) (X (82 + k)) t0))) 0 (q_ent mX7_startFrom [.ref o, .int (nI k), .int (nI t0)]) [] s := by
  show s_W G mX7_startFrom 1 0 0 _ 0 [some (.ref o), some (.int (nI k)), some (.int (nI t0)), none, none, none, none, none, none] [] s
  have hk2 := y_op hw hk
  have hz := y_sz hw
  have hn := y_mn hw hk2.2.2.2.2.2.2.1
  have outer : ∀ f r t (L7 L8 : Option Value), r ≤ X (151 + X (62 + k)) → X (151 + X (62 + k)) < r + f → t ≤ 1000000 → x_rn X (X (62 + k)) (X (82 + k)) (X (151 + X (62 + k))) (X (151 + X (62 + k)) - r) t = x_fr X (X (62 + k)) (X (82 + k)) t0 → s_W G mX7_startFrom 1 0 0 (c_I (fun x s1 => s1 = s ∧ x = nI (x_fr X (X (62 + k)) (X (82 + k)) t0))) 21 [some (.ref o), some (.int (nI k)), some (.int (nI t0)), some (.int (nI (X (62 + k)))), some (.int (nI (X (151 + X (62 + k))))), some (.int (nI t)), some (.int (nI r)), L7, L8] [] s := by
    intro f
    induction f with
    | zero => intro r t L7 L8 h1 h2; exact absurd h2 (by omega)
    | succ f ih =>
      intro r t L7 L8 h1 h2 ht hR
      refine r_iload dX7_startFrom_21 rfl ?_
      refine r_iload dX7_startFrom_23 rfl ?_
      refine n_cge (tgt := 113) dX7_startFrom_25 (by decide) (by omega) (by omega) (fun c25 => ?_) (fun c25 => ?_)
      · refine r_iload dX7_startFrom_113 rfl ?_
        refine s_iret dX7_startFrom_115 rfl rfl ?_
        have e : r = X (151 + X (62 + k)) := by omega
        refine ⟨_, rfl, rfl, ?_⟩
        rw [← hR, e, Nat.sub_self]
        rfl
      · refine n_const 0 dX7_startFrom_28 (by decide) ?_
        refine r_istore dX7_startFrom_29 (by decide) rfl ?_
        have e0 : X (151 + X (62 + k)) - r = (X (151 + X (62 + k)) - (r + 1)) + 1 := by omega
        rw [e0] at hR
        have hR : x_rn X (X (62 + k)) (X (82 + k)) (X (151 + X (62 + k))) (X (151 + X (62 + k)) - (r + 1)) (x_ps X (X (62 + k)) (X (82 + k)) (X (151 + X (62 + k)) - 0) 0 t) = x_fr X (X (62 + k)) (X (82 + k)) t0 := hR
        have inner : ∀ f i t (L8 : Option Value), i ≤ X (151 + X (62 + k)) → X (151 + X (62 + k)) < i + f → t ≤ 1000000 → x_rn X (X (62 + k)) (X (82 + k)) (X (151 + X (62 + k))) (X (151 + X (62 + k)) - (r + 1)) (x_ps X (X (62 + k)) (X (82 + k)) (X (151 + X (62 + k)) - i) i t) = x_fr X (X (62 + k)) (X (82 + k)) t0 → s_W G mX7_startFrom 1 0 0 (c_I (fun x s1 => s1 = s ∧ x = nI (x_fr X (X (62 + k)) (X (82 + k)) t0))) 31 [some (.ref o), some (.int (nI k)), some (.int (nI t0)), some (.int (nI (X (62 + k)))), some (.int (nI (X (151 + X (62 + k))))), some (.int (nI t)), some (.int (nI r)), some (.int (nI i)), L8] [] s := by
          intro f
          induction f with
          | zero => intro i t L8 h1 h2; exact absurd h2 (by omega)
          | succ f ih2 =>
            intro i t L8 h3 h4 ht hR
            refine r_iload dX7_startFrom_31 rfl ?_
            refine r_iload dX7_startFrom_33 rfl ?_
            refine n_cge (tgt := 107) dX7_startFrom_35 (by decide) (by omega) (by omega) (fun c35 => ?_) (fun c35 => ?_)
            · have e : i = X (151 + X (62 + k)) := by omega
              subst e
              refine n_inc dX7_startFrom_107 rfl (n_i1 _) (by decide) rfl ?_
              refine r_goto (tgt := 21) dX7_startFrom_110 (by decide) ?_
              refine ih (r + 1) t _ _ (by omega) (by omega) ht ?_
              rw [← hR, Nat.sub_self]
              rfl
            · have hbr := y_br hw hk2.2.2.2.2.2.2.1 c35
              refine r_iload dX7_startFrom_38 rfl ?_
              refine r_aload_n dX7_startFrom_40 rfl rfl ?_
              refine s_getR dX7_startFrom_41 fX7_47 (layX7 ho) rfl ?_
              refine r_iload_n dX7_startFrom_44 rfl rfl ?_
              refine a_ald dX7_startFrom_45 (X7_breakBehind ho) (by omega) (by decide) ?_
              refine r_iload dX7_startFrom_46 rfl ?_
              refine a_ld dX7_startFrom_48 (X7_breakBehind_row ho (by omega)) (by omega) (by decide) (cl_bb hC (by omega) (by omega)) ?_
              refine n_cge (tgt := 77) dX7_startFrom_49 (by decide) (by omega) (by omega) (fun c49 => ?_) (fun c49 => ?_)
              · refine n_const 0 dX7_startFrom_77 (by decide) ?_
                refine r_istore dX7_startFrom_78 (by decide) rfl ?_
                refine r_iload dX7_startFrom_80 rfl ?_
                refine n_ifeq (tgt := 97) dX7_startFrom_82 (by decide) (by omega) (fun c82 => ?_) (fun c82 => ?_)
                · refine r_iload dX7_startFrom_97 rfl ?_
                  refine r_istore dX7_startFrom_99 (by decide) rfl ?_
                  refine n_inc dX7_startFrom_101 rfl (n_i1 _) (by decide) rfl ?_
                  refine r_goto (tgt := 31) dX7_startFrom_104 (by decide) ?_
                  refine ih2 (i + 1) _ _ (by omega) (by omega) ?_ ?_
                  · omega
                  · rw [← hR]
                    have e : X (151 + X (62 + k)) - i = (X (151 + X (62 + k)) - (i + 1)) + 1 := by omega
                    rw [e]
                    show _ = x_rn X _ _ _ _ (x_ps X _ _ _ (i + 1) (x_bs X _ _ i t))
                    unfold x_bs
                    first
                      | rw [if_pos (by omega)]
                      | rw [if_neg (by omega)]
                · exact absurd c82 (by decide)
              · refine r_aload_n dX7_startFrom_52 rfl rfl ?_
                refine s_getR dX7_startFrom_53 fX7_44 (layX7 ho) rfl ?_
                refine r_iload_n dX7_startFrom_56 rfl rfl ?_
                refine a_ald dX7_startFrom_57 (X7_breakFirst ho) (by omega) (by decide) ?_
                refine r_iload dX7_startFrom_58 rfl ?_
                refine a_ld dX7_startFrom_60 (X7_breakFirst_row ho (by omega)) (by omega) (by decide) (cl_bf hC (by omega) (by omega)) ?_
                refine r_iload dX7_startFrom_61 rfl ?_
                refine r_aload_n dX7_startFrom_63 rfl rfl ?_
                refine s_getR dX7_startFrom_64 fX7_29 (layX7 ho) rfl ?_
                refine r_iload_n dX7_startFrom_67 rfl rfl ?_
                refine a_ld dX7_startFrom_68 (X7_durations ho) (by omega) (by decide) (cl_du hC (by omega)) ?_
                refine n_add dX7_startFrom_69 ?_
                refine n_cge (tgt := 77) dX7_startFrom_70 (by decide) (by omega) (by omega) (fun c70 => ?_) (fun c70 => ?_)
                · refine n_const 0 dX7_startFrom_77 (by decide) ?_
                  refine r_istore dX7_startFrom_78 (by decide) rfl ?_
                  refine r_iload dX7_startFrom_80 rfl ?_
                  refine n_ifeq (tgt := 97) dX7_startFrom_82 (by decide) (by omega) (fun c82 => ?_) (fun c82 => ?_)
                  · refine r_iload dX7_startFrom_97 rfl ?_
                    refine r_istore dX7_startFrom_99 (by decide) rfl ?_
                    refine n_inc dX7_startFrom_101 rfl (n_i1 _) (by decide) rfl ?_
                    refine r_goto (tgt := 31) dX7_startFrom_104 (by decide) ?_
                    refine ih2 (i + 1) _ _ (by omega) (by omega) ?_ ?_
                    · omega
                    · rw [← hR]
                      have e : X (151 + X (62 + k)) - i = (X (151 + X (62 + k)) - (i + 1)) + 1 := by omega
                      rw [e]
                      show _ = x_rn X _ _ _ _ (x_ps X _ _ _ (i + 1) (x_bs X _ _ i t))
                      unfold x_bs
                      first
                        | rw [if_pos (by omega)]
                        | rw [if_neg (by omega)]
                  · exact absurd c82 (by decide)
                · refine n_const 1 dX7_startFrom_73 (by decide) ?_
                  refine r_goto (tgt := 78) dX7_startFrom_74 (by decide) ?_
                  refine r_istore dX7_startFrom_78 (by decide) rfl ?_
                  refine r_iload dX7_startFrom_80 rfl ?_
                  refine n_ifeq (tgt := 97) dX7_startFrom_82 (by decide) (by omega) (fun c82 => ?_) (fun c82 => ?_)
                  · exact absurd c82 (by decide)
                  · refine r_aload_n dX7_startFrom_85 rfl rfl ?_
                    refine s_getR dX7_startFrom_86 fX7_47 (layX7 ho) rfl ?_
                    refine r_iload_n dX7_startFrom_89 rfl rfl ?_
                    refine a_ald dX7_startFrom_90 (X7_breakBehind ho) (by omega) (by decide) ?_
                    refine r_iload dX7_startFrom_91 rfl ?_
                    refine a_ld dX7_startFrom_93 (X7_breakBehind_row ho (by omega)) (by omega) (by decide) (cl_bb hC (by omega) (by omega)) ?_
                    refine r_goto (tgt := 99) dX7_startFrom_94 (by decide) ?_
                    refine r_istore dX7_startFrom_99 (by decide) rfl ?_
                    refine n_inc dX7_startFrom_101 rfl (n_i1 _) (by decide) rfl ?_
                    refine r_goto (tgt := 31) dX7_startFrom_104 (by decide) ?_
                    refine ih2 (i + 1) _ _ (by omega) (by omega) ?_ ?_
                    · omega
                    · rw [← hR]
                      have e : X (151 + X (62 + k)) - i = (X (151 + X (62 + k)) - (i + 1)) + 1 := by omega
                      rw [e]
                      show _ = x_rn X _ _ _ _ (x_ps X _ _ _ (i + 1) (x_bs X _ _ i t))
                      unfold x_bs
                      first
                        | rw [if_pos (by omega)]
                        | rw [if_neg (by omega)]
        exact inner (X (151 + X (62 + k)) + 1) 0 t _ (by omega) (by omega) ht hR
  refine r_aload_n dX7_startFrom_0 rfl rfl ?_
  refine s_getR dX7_startFrom_1 fX7_26 (layX7 ho) rfl ?_
  refine r_iload_n dX7_startFrom_4 rfl rfl ?_
  refine a_ld dX7_startFrom_5 (X7_machineOf ho) (by omega) (by decide) (cl_mc hC (by omega)) ?_
  refine r_istore_n dX7_startFrom_6 rfl (by decide) rfl ?_
  refine r_aload_n dX7_startFrom_7 rfl rfl ?_
  refine s_getR dX7_startFrom_8 fX7_41 (layX7 ho) rfl ?_
  refine r_iload_n dX7_startFrom_11 rfl rfl ?_
  refine a_ld dX7_startFrom_12 (X7_breakdowns ho) (by omega) (by decide) (cl_bn hC (by omega)) ?_
  refine r_istore dX7_startFrom_13 (by decide) rfl ?_
  refine r_iload_n dX7_startFrom_15 rfl rfl ?_
  refine r_istore dX7_startFrom_16 (by decide) rfl ?_
  refine n_const 0 dX7_startFrom_18 (by decide) ?_
  refine r_istore dX7_startFrom_19 (by decide) rfl ?_
  exact outer (X (151 + X (62 + k)) + 1) 0 t0 none none (by omega) (by omega) ht0 rfl
theorem d_readyTime2 {G : q_G} {s : s_T} {X : x_T} {o k ke a b : Nat} {bf : Option Nat} (ho : isX7 o) (hC : c_R X s o) (hw : y_wf X) (hk : k < X 1) (hl : q_lay ke = .inl (0, 20, none)) (ha : 0 < X (122 + k) → s ke (X (22 + 4 * X (42 + k) + (X (122 + k) - 1))) = nI a) (hb : ∀ q, bf = some q → q < X 1 ∧ s ke q = nI b) (ha2 : a < 1000000) (hb2 : b < 1000000) : s_W G mX7_readyTime 1 0 0 (c_I (fun y9 s1 => s1 = s ∧ y9 = nI (max (if X (122 + k) = 0 then X (2 + X (42 + k)) else a) (x_bx bf b (fun q => X (142 + 3 * X (102 + q) + X (102 + k))))))) 0 (q_ent mX7_readyTime [.ref o, .int (nI k), .int (oI bf), .ref ke]) [] s := by
  cases bf with
  | none => exact d_readyTime (bf := none) ho hC hw hk hl ha hb ha2 hb2
  | some q => exact d_readyTime (bf := some q) ho hC hw hk hl ha hb ha2 hb2
set_option maxRecDepth 20000 in
set_option maxHeartbeats 1000000 in
theorem d_free {G : q_G} {s : s_T} {X : x_T} {m t0 d : Nat} (hM : m_R X s) (hw : y_wf X) (hm : m < 4) (ht0 : t0 ≤ 1000000) (hd : d ≤ 30) : s_W G mX12_free 1 0 0 (c_I (fun x s1 => s1 = s ∧ x = nI (x_fr X m d t0))) 0 (q_ent mX12_free [.ref 212, .int (nI m), .int (nI t0), .int (nI d)]) [] s := by
  show s_W G mX12_free 1 0 0 _ 0 [some (.ref 212), some (.int (nI m)), some (.int (nI t0)), some (.int (nI d)), none, none, none, none, none] [] s
  have hn := y_mn hw hm
  have outer : ∀ f t e (L6 L7 L8 : Option Value), e ≤ 1 → (e = 0 → x_pa X m d t = t) → x_fr X m d t = x_fr X m d t0 → t ≤ 1000000 → (e = 1 → x_cn X m (X (151 + m)) 0 t < f) → s_W G mX12_free 1 0 0 (c_I (fun x s1 => s1 = s ∧ x = nI (x_fr X m d t0))) 6 [some (.ref 212), some (.int (nI m)), some (.int (nI t0)), some (.int (nI d)), some (.int (nI t)), some (.int (nI e)), L6, L7, L8] [] s := by
    intro f
    induction f with
    | zero =>
      intro t e L6 L7 L8 he h0 hfr ht hcn
      refine r_iload dX12_free_6 rfl ?_
      refine n_ifeq (tgt := 101) dX12_free_8 (by decide) (by omega) (fun c8 => ?_) (fun c8 => ?_)
      · refine r_iload dX12_free_101 rfl ?_
        refine s_iret dX12_free_103 rfl rfl ?_
        refine ⟨_, rfl, rfl, ?_⟩
        rw [← hfr, x_fr_fix (h0 c8)]
      · exact absurd (hcn (by omega)) (by omega)
    | succ f ih =>
      intro t e L6 L7 L8 he h0 hfr ht hcn
      refine r_iload dX12_free_6 rfl ?_
      refine n_ifeq (tgt := 101) dX12_free_8 (by decide) (by omega) (fun c8 => ?_) (fun c8 => ?_)
      · refine r_iload dX12_free_101 rfl ?_
        refine s_iret dX12_free_103 rfl rfl ?_
        refine ⟨_, rfl, rfl, ?_⟩
        rw [← hfr, x_fr_fix (h0 c8)]
      · refine n_const 0 dX12_free_11 (by decide) ?_
        refine r_istore dX12_free_12 (by decide) rfl ?_
        refine n_const 0 dX12_free_14 (by decide) ?_
        refine r_istore dX12_free_15 (by decide) rfl ?_
        have inner : ∀ f2 i t2 e (L7 L8 : Option Value), i ≤ X (151 + m) → X (151 + m) < i + f2 → t2 ≤ 1000000 → (e ≤ 1 ∧ (e = 0 → t2 = t) ∧ (e = 1 → t < t2)) → t ≤ t2 → x_ps X m d (X (151 + m) - i) i t2 = x_pa X m d t → s_W G mX12_free 1 0 0 (c_I (fun x s1 => s1 = s ∧ x = nI (x_fr X m d t0))) 17 [some (.ref 212), some (.int (nI m)), some (.int (nI t0)), some (.int (nI d)), some (.int (nI t2)), some (.int (nI e)), some (.int (nI i)), L7, L8] [] s := by
          generalize t = t1 at hfr hcn ⊢
          intro f2
          induction f2 with
          | zero => intro i t e L7 L8 h1 h2; exact absurd h2 (by omega)
          | succ f2 ih2 =>
            intro i t e L7 L8 h3 h4 ht he2 hle hR
            refine r_iload dX12_free_17 rfl ?_
            refine r_aload_n dX12_free_19 rfl rfl ?_
            refine s_getR dX12_free_20 fX12_9 lysX12 rfl ?_
            refine n_sip 151 dX12_free_23 (by decide) ?_
            refine r_iload_n dX12_free_26 rfl rfl ?_
            refine n_add dX12_free_27 ?_
            refine m_ld dX12_free_28 hM (by omega) ?_
            refine n_cge (tgt := 98) dX12_free_29 (by decide) (by omega) (by omega) (fun c29 => ?_) (fun c29 => ?_)
            · have e9 : i = X (151 + m) := by omega
              subst e9
              refine r_goto (tgt := 6) dX12_free_98 (by decide) ?_
              rw [Nat.sub_self] at hR
              have hR : t = x_ps X m d (X (151 + m)) 0 t1 := hR
              refine ih t e _ _ _ he2.1 (fun q => ?_) ?_ ht (fun q => ?_)
              · have q1 := he2.2.1 q
                rw [← q1] at hR
                exact hR.symm
              · rw [hR, x_fr_pa]
                exact hfr
              · have q1 := he2.2.2 q
                have q2 := x_ps_cn (X := X) (m := m) (d := d) (X (151 + m)) 0 t1 (by omega)
                have q3 : x_cn X m (X (151 + m)) 0 t < x_cn X m (X (151 + m)) 0 t1 := by rw [hR]; exact q2
                omega
            · have hbr := y_br hw hm c29
              refine r_aload_n dX12_free_32 rfl rfl ?_
              refine s_getR dX12_free_33 fX12_9 lysX12 rfl ?_
              refine n_sip 155 dX12_free_36 (by decide) ?_
              refine n_const 3 dX12_free_39 (by decide) ?_
              refine r_iload_n dX12_free_40 rfl rfl ?_
              refine n_mul dX12_free_41 ?_
              refine n_add dX12_free_42 ?_
              refine r_iload dX12_free_43 rfl ?_
              refine n_add dX12_free_45 ?_
              refine m_ld dX12_free_46 hM (by omega) ?_
              refine r_istore dX12_free_47 (by decide) rfl ?_
              refine r_iload dX12_free_49 rfl ?_
              refine r_aload_n dX12_free_51 rfl rfl ?_
              refine s_getR dX12_free_52 fX12_9 lysX12 rfl ?_
              refine n_sip 167 dX12_free_55 (by decide) ?_
              refine n_const 3 dX12_free_58 (by decide) ?_
              refine r_iload_n dX12_free_59 rfl rfl ?_
              refine n_mul dX12_free_60 ?_
              refine n_add dX12_free_61 ?_
              refine r_iload dX12_free_62 rfl ?_
              refine n_add dX12_free_64 ?_
              refine m_ld dX12_free_65 hM (by omega) ?_
              refine n_add dX12_free_66 ?_
              refine r_istore dX12_free_67 (by decide) rfl ?_
              refine r_iload dX12_free_69 rfl ?_
              refine r_iload dX12_free_71 rfl ?_
              refine r_iload_n dX12_free_73 rfl rfl ?_
              refine n_add dX12_free_74 ?_
              refine n_cge (tgt := 92) dX12_free_75 (by decide) (by omega) (by omega) (fun c75 => ?_) (fun c75 => ?_)
              · refine n_inc dX12_free_92 rfl (n_i1 _) (by decide) rfl ?_
                refine r_goto (tgt := 17) dX12_free_95 (by decide) ?_
                refine ih2 (i + 1) _ _ _ _ (by omega) (by omega) ?_ ?_ ?_ ?_
                · omega
                · omega
                · omega
                · rw [← hR]
                  have e9 : X (151 + m) - i = (X (151 + m) - (i + 1)) + 1 := by omega
                  rw [e9]
                  show _ = x_ps X m d _ (i + 1) (x_bs X m d i t)
                  unfold x_bs
                  first
                    | rw [if_pos (by omega)]
                    | rw [if_neg (by omega)]
              · refine r_iload dX12_free_78 rfl ?_
                refine r_iload dX12_free_80 rfl ?_
                refine n_cge (tgt := 92) dX12_free_82 (by decide) (by omega) (by omega) (fun c82 => ?_) (fun c82 => ?_)
                · refine n_inc dX12_free_92 rfl (n_i1 _) (by decide) rfl ?_
                  refine r_goto (tgt := 17) dX12_free_95 (by decide) ?_
                  refine ih2 (i + 1) _ _ _ _ (by omega) (by omega) ?_ ?_ ?_ ?_
                  · omega
                  · omega
                  · omega
                  · rw [← hR]
                    have e9 : X (151 + m) - i = (X (151 + m) - (i + 1)) + 1 := by omega
                    rw [e9]
                    show _ = x_ps X m d _ (i + 1) (x_bs X m d i t)
                    unfold x_bs
                    first
                      | rw [if_pos (by omega)]
                      | rw [if_neg (by omega)]
                · refine r_iload dX12_free_85 rfl ?_
                  refine r_istore dX12_free_87 (by decide) rfl ?_
                  refine n_const 1 dX12_free_89 (by decide) ?_
                  refine r_istore dX12_free_90 (by decide) rfl ?_
                  refine n_inc dX12_free_92 rfl (n_i1 _) (by decide) rfl ?_
                  refine r_goto (tgt := 17) dX12_free_95 (by decide) ?_
                  refine ih2 (i + 1) _ _ _ _ (by omega) (by omega) ?_ ?_ ?_ ?_
                  · omega
                  · omega
                  · omega
                  · rw [← hR]
                    have e9 : X (151 + m) - i = (X (151 + m) - (i + 1)) + 1 := by omega
                    rw [e9]
                    show _ = x_ps X m d _ (i + 1) (x_bs X m d i t)
                    unfold x_bs
                    first
                      | rw [if_pos (by omega)]
                      | rw [if_neg (by omega)]
        exact inner (X (151 + m) + 1) 0 t 0 _ _ (by omega) (by omega) ht ⟨by omega, fun _ => rfl, fun q => absurd q (by decide)⟩ (Nat.le_refl _) rfl
  refine r_iload_n dX12_free_0 rfl rfl ?_
  refine r_istore dX12_free_1 (by decide) rfl ?_
  refine n_const 1 dX12_free_3 (by decide) ?_
  refine r_istore dX12_free_4 (by decide) rfl ?_
  exact outer (X (151 + m) + 1) t0 1 none none none (by omega) (fun q => absurd q (by decide)) rfl ht0 (fun _ => by have := x_cn_le (X := X) (m := m) (X (151 + m)) 0 t0; omega)
set_option maxRecDepth 20000 in
set_option maxHeartbeats 1000000 in
theorem d_before {G : q_G} {s : s_T} {X : x_T} {k : Nat} (hM : m_R X s) (hw : y_wf X) (hk : k < X 1) : s_W G mX12_before 2 0 0 (c_I (fun y9 s1 => s1 = s ∧ y9 = oI (if X (122 + k) = 0 then none else some (X (22 + 4 * X (42 + k) + (X (122 + k) - 1)))))) 0 (q_ent mX12_before [.ref 212, .int (nI k)]) [] s := by
  show s_W G mX12_before 2 0 0 _ 0 [some (.ref 212), some (.int (nI k)), none] [] s
  have hk2 := y_op hw hk
  refine r_aload_n dX12_before_0 rfl rfl ?_
  refine s_getR dX12_before_1 fX12_9 lysX12 rfl ?_
  refine n_bip 122 dX12_before_4 (by decide) ?_
  refine r_iload_n dX12_before_6 rfl rfl ?_
  refine n_add dX12_before_7 ?_
  refine m_ld dX12_before_8 hM (by omega) ?_
  refine r_istore_n dX12_before_9 rfl (by decide) rfl ?_
  refine r_iload_n dX12_before_10 rfl rfl ?_
  refine n_ifne (tgt := 18) dX12_before_11 (by decide) (by omega) (fun c11 => ?_) (fun c11 => ?_)
  · refine r_aload_n dX12_before_18 rfl rfl ?_
    refine r_aload_n dX12_before_19 rfl rfl ?_
    refine s_getR dX12_before_20 fX12_9 lysX12 rfl ?_
    refine n_bip 42 dX12_before_23 (by decide) ?_
    refine r_iload_n dX12_before_25 rfl rfl ?_
    refine n_add dX12_before_26 ?_
    refine m_ld dX12_before_27 hM (by omega) ?_
    refine r_iload_n dX12_before_28 rfl rfl ?_
    refine n_const 1 dX12_before_29 (by decide) ?_
    refine n_sub dX12_before_30 (by omega) ?_
    refine s_V2I mX12_sequence dX12_before_31 okX12_sequence lX12_110 npX12_sequence lysX12 rfl (by decide) (by decide) (by decide) (Nat.le_of_ble_eq_true rfl) (Nat.le_of_ble_eq_true rfl) (c_sequence hM (by omega) (by omega)) (fun x s1 hq => ?_)
    obtain ⟨rfl, rfl⟩ := hq
    refine s_iret dX12_before_34 rfl rfl ?_
    first | (rw [if_pos (by omega)]; exact ⟨_, rfl, rfl, rfl⟩) | (rw [if_neg (by omega)]; exact ⟨_, rfl, rfl, rfl⟩)
  · refine r_iconst (v := -1) dX12_before_14 (by decide) ?_
    refine r_goto (tgt := 34) dX12_before_15 (by decide) ?_
    refine s_iret dX12_before_34 rfl rfl ?_
    first | (rw [if_pos (by omega)]; exact ⟨_, rfl, rfl, rfl⟩) | (rw [if_neg (by omega)]; exact ⟨_, rfl, rfl, rfl⟩)
/-! ===== the work of a part of a job ===== -/
def x_wk (X : x_T) (j a n : Nat) : Nat := x_sm (fun i => X (82 + X (22 + 4 * j + (a + i)))) n
theorem x_sm_s {f : Nat → Nat} : ∀ n, x_sm f (n + 1) = f 0 + x_sm (fun i => f (i + 1)) n
  | 0 => by show 0 + f 0 = f 0 + 0; omega
  | n + 1 => by
    have h := x_sm_s (f := f) n
    show x_sm f (n + 1) + f (n + 1) = f 0 + (x_sm (fun i => f (i + 1)) n + f (n + 1))
    rw [h]; omega
theorem x_sm_le {f : Nat → Nat} {B : Nat} : ∀ n, (∀ i, i < n → f i ≤ B) → x_sm f n ≤ n * B
  | 0, _ => by show 0 ≤ _; omega
  | n + 1, h => by
    have h1 := x_sm_le (f := f) n (fun i hi => h i (by omega))
    have h2 := h n (by omega)
    show x_sm f n + f n ≤ _
    rw [Nat.add_mul]; omega
theorem x_sm_cg {f g : Nat → Nat} : ∀ n, (∀ i, i < n → f i = g i) → x_sm f n = x_sm g n
  | 0, _ => rfl
  | n + 1, h => by show x_sm f n + f n = x_sm g n + g n; rw [x_sm_cg n (fun i hi => h i (by omega)), h n (by omega)]
theorem x_wk_s {X : x_T} {j a n : Nat} : x_wk X j a (n + 1) = X (82 + X (22 + 4 * j + a)) + x_wk X j (a + 1) n := by
  unfold x_wk
  rw [x_sm_s]
  show X (82 + X (22 + 4 * j + (a + 0))) + _ = _
  rw [Nat.add_zero]
  congr 1
  exact x_sm_cg _ (fun i _ => by rw [show a + (i + 1) = a + 1 + i by omega])
theorem x_wk_le {X : x_T} (h : y_wf X) {j a n : Nat} (hj : j < X 0) (hn : a + n ≤ X (17 + j)) : x_wk X j a n ≤ 120 := by
  have hjb := y_jb h hj
  have := x_sm_le (f := fun i => X (82 + X (22 + 4 * j + (a + i)))) (B := 30) n (fun i hi => (y_op h (y_rt h hj (i := a + i) (by omega)).1).2.2.2.2.2.2.2.2.1)
  unfold x_wk
  omega
/-- the work from an operation on -/
def x_rs (X : x_T) (k : Nat) : Nat := x_wk X (X (42 + k)) (X (122 + k)) (X (17 + X (42 + k)) - X (122 + k))
set_option maxRecDepth 20000 in
set_option maxHeartbeats 1000000 in
theorem d_work {G : q_G} {s : s_T} {X : x_T} {o j a b : Nat} (ho : isX7 o) (hC : c_R X s o) (hw : y_wf X) (hj : j < X 0) (hab : a ≤ b ∨ b ≤ a) (hb : b ≤ X (17 + j)) (ha : a ≤ 5) : s_W G mX1_work 1 0 0 (c_I (fun y9 s1 => s1 = s ∧ y9 = nI (x_wk X j a (b - a)))) 0 (q_ent mX1_work [.ref o, .int (nI j), .int (nI a), .int (nI b)]) [] s := by
  show s_W G mX1_work 1 0 0 _ 0 [some (.ref o), some (.int (nI j)), some (.int (nI a)), some (.int (nI b)), none, none] [] s
  have hjb := y_jb hw hj
  have lp : ∀ f e, e ≤ b - a → b - a < e + f → s_W G mX1_work 1 0 0 (c_I (fun y9 s1 => s1 = s ∧ y9 = nI (x_wk X j a (b - a)))) 6 [some (.ref o), some (.int (nI j)), some (.int (nI a)), some (.int (nI b)), some (.int (nI (x_wk X j a e))), some (.int (nI (a + e)))] [] s := by
    intro f
    induction f with
    | zero =>
      intro e he hme
      exact absurd hme (by omega)
    | succ f ih =>
      intro e he hme
      have hjb := y_jb hw hj
      refine r_iload dX1_work_6 rfl ?_
      refine r_iload_n dX1_work_8 rfl rfl ?_
      refine n_cge (tgt := 37) dX1_work_9 (by decide) (by omega) (by omega) (fun c9 => ?_) (fun c9 => ?_)
      · refine r_iload dX1_work_37 rfl ?_
        refine s_iret dX1_work_39 rfl rfl ?_
        have e9 : e = b - a := by omega
        subst e9
        exact ⟨_, rfl, rfl, rfl⟩
      · have hrt := y_rt hw hj (i := a + e) (by omega)
        have hop := y_op hw hrt.1
        refine r_iload dX1_work_12 rfl ?_
        refine r_aload_n dX1_work_14 rfl rfl ?_
        refine s_getR dX1_work_15 fX1_71 (layX7 ho) rfl ?_
        refine r_aload_n dX1_work_18 rfl rfl ?_
        refine s_getR dX1_work_19 fX1_74 (layX7 ho) rfl ?_
        refine r_iload_n dX1_work_22 rfl rfl ?_
        refine a_ald dX1_work_23 (X7_routes ho) (by omega) (by decide) ?_
        refine r_iload dX1_work_24 rfl ?_
        refine a_ld dX1_work_26 (X7_routes_row ho (by omega)) (by omega) (by decide) (cl_rt hC (by omega) (by omega)) ?_
        refine a_ld dX1_work_27 (X7_durations ho) (by omega) (by decide) (cl_du hC (by omega)) ?_
        refine n_add dX1_work_28 ?_
        refine r_istore dX1_work_29 (by decide) rfl ?_
        refine n_inc dX1_work_31 rfl (n_i1 _) (by decide) rfl ?_
        refine r_goto (tgt := 6) dX1_work_34 (by decide) ?_
        exact ih (e + 1) (by omega) (by omega)
  refine n_const 0 dX1_work_0 (by decide) ?_
  refine r_istore dX1_work_1 (by decide) rfl ?_
  refine r_iload_n dX1_work_3 rfl rfl ?_
  refine r_istore dX1_work_4 (by decide) rfl ?_
  exact lp (b - a + 1) 0 (by omega) (by omega)
set_option maxRecDepth 20000 in
set_option maxHeartbeats 1000000 in
theorem d_restOf {G : q_G} {s : s_T} {X : x_T} {k : Nat} (hM : m_R X s) (hw : y_wf X) (hk : k < X 1) : s_W G mX12_restOf 2 0 0 (c_I (fun y9 s1 => s1 = s ∧ y9 = nI (x_rs X k))) 0 (q_ent mX12_restOf [.ref 212, .int (nI k)]) [] s := by
  show s_W G mX12_restOf 2 0 0 _ 0 [some (.ref 212), some (.int (nI k)), none, none, none] [] s
  have hk2 := y_op hw hk
  have lp : ∀ f e, e ≤ X (17 + X (42 + k)) - X (122 + k) → X (17 + X (42 + k)) - X (122 + k) < e + f → s_W G mX12_restOf 2 0 0 (c_I (fun y9 s1 => s1 = s ∧ y9 = nI (x_rs X k))) 23 [some (.ref 212), some (.int (nI k)), some (.int (nI (X (42 + k)))), some (.int (nI (x_wk X (X (42 + k)) (X (122 + k)) e))), some (.int (nI (X (122 + k) + e)))] [] s := by
    intro f
    induction f with
    | zero =>
      intro e he hme
      exact absurd hme (by omega)
    | succ f ih =>
      intro e he hme
      refine r_iload dX12_restOf_23 rfl ?_
      refine r_aload_n dX12_restOf_25 rfl rfl ?_
      refine s_getR dX12_restOf_26 fX12_9 lysX12 rfl ?_
      refine n_bip 17 dX12_restOf_29 (by decide) ?_
      refine r_iload_n dX12_restOf_31 rfl rfl ?_
      refine n_add dX12_restOf_32 ?_
      refine m_ld dX12_restOf_33 hM (by omega) ?_
      refine n_cge (tgt := 61) dX12_restOf_34 (by decide) (by omega) (by omega) (fun c34 => ?_) (fun c34 => ?_)
      · refine r_iload_n dX12_restOf_61 rfl rfl ?_
        refine s_iret dX12_restOf_62 rfl rfl ?_
        have e9 : e = X (17 + X (42 + k)) - X (122 + k) := by omega
        subst e9
        exact ⟨_, rfl, rfl, rfl⟩
      · refine r_iload_n dX12_restOf_37 rfl rfl ?_
        refine r_aload_n dX12_restOf_38 rfl rfl ?_
        refine s_getR dX12_restOf_39 fX12_9 lysX12 rfl ?_
        refine n_bip 82 dX12_restOf_42 (by decide) ?_
        refine r_aload_n dX12_restOf_44 rfl rfl ?_
        refine r_iload_n dX12_restOf_45 rfl rfl ?_
        refine r_iload dX12_restOf_46 rfl ?_
        refine s_V2I mX12_sequence dX12_restOf_48 okX12_sequence lX12_110 npX12_sequence lysX12 rfl (by decide) (by decide) (by decide) (Nat.le_of_ble_eq_true rfl) (Nat.le_of_ble_eq_true rfl) (c_sequence hM (by omega) (by omega)) (fun x s1 hq => ?_)
        obtain ⟨rfl, rfl⟩ := hq
        have hrt := y_rt hw hk2.2.2.1 (i := X (122 + k) + e) (by omega)
        refine n_add dX12_restOf_51 ?_
        refine m_ld dX12_restOf_52 hM (by omega) ?_
        refine n_add dX12_restOf_53 ?_
        refine r_istore_n dX12_restOf_54 rfl (by decide) rfl ?_
        refine n_inc dX12_restOf_55 rfl (n_i1 _) (by decide) rfl ?_
        refine r_goto (tgt := 23) dX12_restOf_58 (by decide) ?_
        exact ih (e + 1) (by omega) (by omega)
  refine r_aload_n dX12_restOf_0 rfl rfl ?_
  refine s_getR dX12_restOf_1 fX12_9 lysX12 rfl ?_
  refine n_bip 42 dX12_restOf_4 (by decide) ?_
  refine r_iload_n dX12_restOf_6 rfl rfl ?_
  refine n_add dX12_restOf_7 ?_
  refine m_ld dX12_restOf_8 hM (by omega) ?_
  refine r_istore_n dX12_restOf_9 rfl (by decide) rfl ?_
  refine n_const 0 dX12_restOf_10 (by decide) ?_
  refine r_istore_n dX12_restOf_11 rfl (by decide) rfl ?_
  refine r_aload_n dX12_restOf_12 rfl rfl ?_
  refine s_getR dX12_restOf_13 fX12_9 lysX12 rfl ?_
  refine n_bip 122 dX12_restOf_16 (by decide) ?_
  refine r_iload_n dX12_restOf_18 rfl rfl ?_
  refine n_add dX12_restOf_19 ?_
  refine m_ld dX12_restOf_20 hM (by omega) ?_
  refine r_istore dX12_restOf_21 (by decide) rfl ?_
  exact lp (X (17 + X (42 + k)) - X (122 + k) + 1) 0 (by omega) (by omega)
