section
/-! ===== the class: reading a text ===== -/
set_option maxRecDepth 20000 in
set_option maxHeartbeats 1000000 in
theorem c_beginNumber {G : q_G} {s : s_T} {k : Int32} : s_W G mX9_beginNumber 1 0 0 (c_V (fun s1 => s1 206 = upd (upd (upd (s 206) 5 k) 6 (nI 0)) 7 (nI 0) ∧ s_fr 206 207 s s1)) 0 (q_ent mX9_beginNumber [.ref 206, .int k]) [] s := by
  show s_W G mX9_beginNumber 1 0 0 _ 0 [some (.ref 206), some (.int k)] [] s
  refine r_aload_n dX9_beginNumber_0 rfl rfl ?_
  refine r_iload_n dX9_beginNumber_1 rfl rfl ?_
  refine a_put dX9_beginNumber_2 gX9_50 lysX9 rfl rfl rfl (fun s1 hs1 hf1 => ?_)
  refine r_aload_n dX9_beginNumber_5 rfl rfl ?_
  refine n_const 0 dX9_beginNumber_6 (by decide) ?_
  refine a_put dX9_beginNumber_7 gX9_40 lysX9 rfl rfl rfl (fun s2 hs2 hf2 => ?_)
  refine r_aload_n dX9_beginNumber_10 rfl rfl ?_
  refine n_const 0 dX9_beginNumber_11 (by decide) ?_
  refine a_put dX9_beginNumber_12 gX9_37 lysX9 rfl rfl rfl (fun s3 hs3 hf3 => ?_)
  refine s_vret dX9_beginNumber_15 rfl ?_
  exact ⟨rfl, by rw [hs3, hs2, hs1], s_fr_tr hf1 (s_fr_tr hf2 hf3)⟩
set_option maxRecDepth 20000 in
set_option maxHeartbeats 1000000 in
theorem c_endNumber {G : q_G} {s : s_T} {M : Nat} (h2 : s 206 2 = nI M) (hM : M < 80) : s_W G mX9_endNumber 1 0 0 (c_V (fun s1 => s1 209 = upd (s 209) M (s 206 5) ∧ s1 208 = upd (s 208) M (s 206 7) ∧ s1 206 = upd (s 206) 2 (nI (M + 1)) ∧ s1 207 = s 207 ∧ s_fr 206 210 s s1)) 0 (q_ent mX9_endNumber [.ref 206]) [] s := by
  show s_W G mX9_endNumber 1 0 0 _ 0 [some (.ref 206)] [] s
  refine r_aload_n dX9_endNumber_0 rfl rfl ?_
  refine s_getI dX9_endNumber_1 fX9_26 lysX9 rfl h2 ?_
  refine n_bip 80 dX9_endNumber_4 (by decide) ?_
  refine n_cge (tgt := 45) dX9_endNumber_6 (by decide) (by omega) (by omega) (fun c6 => ?_) (fun c6 => ?_)
  · exact absurd c6 (by omega)
  · refine r_aload_n dX9_endNumber_9 rfl rfl ?_
    refine s_getR dX9_endNumber_10 fX9_19 lysX9 rfl ?_
    refine r_aload_n dX9_endNumber_13 rfl rfl ?_
    refine s_getI dX9_endNumber_14 fX9_26 lysX9 rfl h2 ?_
    refine r_aload_n dX9_endNumber_17 rfl rfl ?_
    refine s_getI dX9_endNumber_18 fX9_50 lysX9 rfl rfl ?_
    refine a_st dX9_endNumber_21 rfl (by omega) (by decide) (fun s1 hs1 hf1 => ?_)
    refine r_aload_n dX9_endNumber_22 rfl rfl ?_
    refine s_getR dX9_endNumber_23 fX9_15 lysX9 rfl ?_
    refine r_aload_n dX9_endNumber_26 rfl rfl ?_
    refine s_getI dX9_endNumber_27 fX9_26 lysX9 rfl (show s1 206 2 = nI M by rw [hf1 206 (by omega)]; exact h2) ?_
    refine r_aload_n dX9_endNumber_30 rfl rfl ?_
    refine s_getI dX9_endNumber_31 fX9_37 lysX9 rfl rfl ?_
    refine a_st dX9_endNumber_34 rfl (by omega) (by decide) (fun s2 hs2 hf2 => ?_)
    refine r_aload_n dX9_endNumber_35 rfl rfl ?_
    refine r_dup dX9_endNumber_36 rfl ?_
    refine s_getI dX9_endNumber_37 fX9_26 lysX9 rfl (show s2 206 2 = nI M by rw [hf2 206 (by omega), hf1 206 (by omega)]; exact h2) ?_
    refine n_const 1 dX9_endNumber_40 (by decide) ?_
    refine n_add dX9_endNumber_41 ?_
    refine a_put dX9_endNumber_42 gX9_26 lysX9 rfl rfl rfl (fun s3 hs3 hf3 => ?_)
    refine s_vret dX9_endNumber_45 rfl ?_
    exact ⟨rfl, by rw [hf3 209 (by omega), hf2 209 (by omega), hs1], by rw [hf3 208 (by omega), hs2, hf1 208 (by omega), hf1 206 (by omega)], by rw [hs3, hf2 206 (by omega), hf1 206 (by omega)], by rw [hf3 207 (by omega), hf2 207 (by omega), hf1 207 (by omega)], fun k hk => by rw [hf3 k (by omega), hf2 k (by omega), hf1 k (by omega)]⟩
set_option maxRecDepth 20000 in
set_option maxHeartbeats 1000000 in
theorem c_takesDigit {G : q_G} {s : s_T} {k j v : Nat} (h5 : s 206 5 = nI k) (h6 : s 206 6 = nI j) (h7 : s 206 7 = nI v) (hk : k < 6) (hj : j ≤ 3) (hv : v ≤ 999) : s_W G mX9_takesDigit 1 0 0 (c_I (fun y9 s1 => s1 = s ∧ y9 = bI (decide (j = 0 ∨ (j < w_mo k ∧ 0 < v))))) 0 (q_ent mX9_takesDigit [.ref 206]) [] s := by
  show s_W G mX9_takesDigit 1 0 0 _ 0 [some (.ref 206)] [] s
  refine r_aload_n dX9_takesDigit_0 rfl rfl ?_
  refine s_getI dX9_takesDigit_1 fX9_50 lysX9 rfl h5 ?_
  refine n_const 3 dX9_takesDigit_4 (by decide) ?_
  refine n_ceq (tgt := 16) dX9_takesDigit_5 (by decide) (by omega) (by omega) (fun c5 => ?_) (fun c5 => ?_)
  · refine r_aload_n dX9_takesDigit_16 rfl rfl ?_
    refine s_getI dX9_takesDigit_17 fX9_40 lysX9 rfl h6 ?_
    refine n_ifne (tgt := 27) dX9_takesDigit_20 (by decide) (by omega) (fun c20 => ?_) (fun c20 => ?_)
    · refine n_const 0 dX9_takesDigit_27 (by decide) ?_
      refine s_iret dX9_takesDigit_28 rfl rfl ?_
      refine ⟨_, rfl, rfl, ?_⟩
      first
        | (have e9 : w_mo k = 1 := by unfold w_mo; rw [if_pos (by omega)]
           first
             | (rw [show decide (j = 0 ∨ (j < w_mo k ∧ 0 < v)) = true from decide_eq_true (by omega)]; rfl)
             | (rw [show decide (j = 0 ∨ (j < w_mo k ∧ 0 < v)) = false from decide_eq_false (by omega)]; rfl))
        | (have e9 : w_mo k = 3 := by unfold w_mo; rw [if_neg (by omega)]
           first
             | (rw [show decide (j = 0 ∨ (j < w_mo k ∧ 0 < v)) = true from decide_eq_true (by omega)]; rfl)
             | (rw [show decide (j = 0 ∨ (j < w_mo k ∧ 0 < v)) = false from decide_eq_false (by omega)]; rfl))
    · refine n_const 1 dX9_takesDigit_23 (by decide) ?_
      refine r_goto (tgt := 28) dX9_takesDigit_24 (by decide) ?_
      refine s_iret dX9_takesDigit_28 rfl rfl ?_
      refine ⟨_, rfl, rfl, ?_⟩
      first
        | (have e9 : w_mo k = 1 := by unfold w_mo; rw [if_pos (by omega)]
           first
             | (rw [show decide (j = 0 ∨ (j < w_mo k ∧ 0 < v)) = true from decide_eq_true (by omega)]; rfl)
             | (rw [show decide (j = 0 ∨ (j < w_mo k ∧ 0 < v)) = false from decide_eq_false (by omega)]; rfl))
        | (have e9 : w_mo k = 3 := by unfold w_mo; rw [if_neg (by omega)]
           first
             | (rw [show decide (j = 0 ∨ (j < w_mo k ∧ 0 < v)) = true from decide_eq_true (by omega)]; rfl)
             | (rw [show decide (j = 0 ∨ (j < w_mo k ∧ 0 < v)) = false from decide_eq_false (by omega)]; rfl))
  · refine r_aload_n dX9_takesDigit_8 rfl rfl ?_
    refine s_getI dX9_takesDigit_9 fX9_50 lysX9 rfl h5 ?_
    refine n_const 5 dX9_takesDigit_12 (by decide) ?_
    refine n_cne (tgt := 29) dX9_takesDigit_13 (by decide) (by omega) (by omega) (fun c13 => ?_) (fun c13 => ?_)
    · refine r_aload_n dX9_takesDigit_29 rfl rfl ?_
      refine s_getI dX9_takesDigit_30 fX9_40 lysX9 rfl h6 ?_
      refine n_ifeq (tgt := 51) dX9_takesDigit_33 (by decide) (by omega) (fun c33 => ?_) (fun c33 => ?_)
      · refine n_const 1 dX9_takesDigit_51 (by decide) ?_
        refine r_goto (tgt := 56) dX9_takesDigit_52 (by decide) ?_
        refine s_iret dX9_takesDigit_56 rfl rfl ?_
        refine ⟨_, rfl, rfl, ?_⟩
        first
          | (have e9 : w_mo k = 1 := by unfold w_mo; rw [if_pos (by omega)]
             first
               | (rw [show decide (j = 0 ∨ (j < w_mo k ∧ 0 < v)) = true from decide_eq_true (by omega)]; rfl)
               | (rw [show decide (j = 0 ∨ (j < w_mo k ∧ 0 < v)) = false from decide_eq_false (by omega)]; rfl))
          | (have e9 : w_mo k = 3 := by unfold w_mo; rw [if_neg (by omega)]
             first
               | (rw [show decide (j = 0 ∨ (j < w_mo k ∧ 0 < v)) = true from decide_eq_true (by omega)]; rfl)
               | (rw [show decide (j = 0 ∨ (j < w_mo k ∧ 0 < v)) = false from decide_eq_false (by omega)]; rfl))
      · refine r_aload_n dX9_takesDigit_36 rfl rfl ?_
        refine s_getI dX9_takesDigit_37 fX9_40 lysX9 rfl h6 ?_
        refine n_const 3 dX9_takesDigit_40 (by decide) ?_
        refine n_cge (tgt := 55) dX9_takesDigit_41 (by decide) (by omega) (by omega) (fun c41 => ?_) (fun c41 => ?_)
        · refine n_const 0 dX9_takesDigit_55 (by decide) ?_
          refine s_iret dX9_takesDigit_56 rfl rfl ?_
          refine ⟨_, rfl, rfl, ?_⟩
          first
            | (have e9 : w_mo k = 1 := by unfold w_mo; rw [if_pos (by omega)]
               first
                 | (rw [show decide (j = 0 ∨ (j < w_mo k ∧ 0 < v)) = true from decide_eq_true (by omega)]; rfl)
                 | (rw [show decide (j = 0 ∨ (j < w_mo k ∧ 0 < v)) = false from decide_eq_false (by omega)]; rfl))
            | (have e9 : w_mo k = 3 := by unfold w_mo; rw [if_neg (by omega)]
               first
                 | (rw [show decide (j = 0 ∨ (j < w_mo k ∧ 0 < v)) = true from decide_eq_true (by omega)]; rfl)
                 | (rw [show decide (j = 0 ∨ (j < w_mo k ∧ 0 < v)) = false from decide_eq_false (by omega)]; rfl))
        · refine r_aload_n dX9_takesDigit_44 rfl rfl ?_
          refine s_getI dX9_takesDigit_45 fX9_37 lysX9 rfl h7 ?_
          refine n_ifle (tgt := 55) dX9_takesDigit_48 (by decide) (by omega) (fun c48 => ?_) (fun c48 => ?_)
          · refine n_const 0 dX9_takesDigit_55 (by decide) ?_
            refine s_iret dX9_takesDigit_56 rfl rfl ?_
            refine ⟨_, rfl, rfl, ?_⟩
            first
              | (have e9 : w_mo k = 1 := by unfold w_mo; rw [if_pos (by omega)]
                 first
                   | (rw [show decide (j = 0 ∨ (j < w_mo k ∧ 0 < v)) = true from decide_eq_true (by omega)]; rfl)
                   | (rw [show decide (j = 0 ∨ (j < w_mo k ∧ 0 < v)) = false from decide_eq_false (by omega)]; rfl))
              | (have e9 : w_mo k = 3 := by unfold w_mo; rw [if_neg (by omega)]
                 first
                   | (rw [show decide (j = 0 ∨ (j < w_mo k ∧ 0 < v)) = true from decide_eq_true (by omega)]; rfl)
                   | (rw [show decide (j = 0 ∨ (j < w_mo k ∧ 0 < v)) = false from decide_eq_false (by omega)]; rfl))
          · refine n_const 1 dX9_takesDigit_51 (by decide) ?_
            refine r_goto (tgt := 56) dX9_takesDigit_52 (by decide) ?_
            refine s_iret dX9_takesDigit_56 rfl rfl ?_
            refine ⟨_, rfl, rfl, ?_⟩
            first
              | (have e9 : w_mo k = 1 := by unfold w_mo; rw [if_pos (by omega)]
                 first
                   | (rw [show decide (j = 0 ∨ (j < w_mo k ∧ 0 < v)) = true from decide_eq_true (by omega)]; rfl)
                   | (rw [show decide (j = 0 ∨ (j < w_mo k ∧ 0 < v)) = false from decide_eq_false (by omega)]; rfl))
              | (have e9 : w_mo k = 3 := by unfold w_mo; rw [if_neg (by omega)]
                 first
                   | (rw [show decide (j = 0 ∨ (j < w_mo k ∧ 0 < v)) = true from decide_eq_true (by omega)]; rfl)
                   | (rw [show decide (j = 0 ∨ (j < w_mo k ∧ 0 < v)) = false from decide_eq_false (by omega)]; rfl))
    · refine r_aload_n dX9_takesDigit_16 rfl rfl ?_
      refine s_getI dX9_takesDigit_17 fX9_40 lysX9 rfl h6 ?_
      refine n_ifne (tgt := 27) dX9_takesDigit_20 (by decide) (by omega) (fun c20 => ?_) (fun c20 => ?_)
      · refine n_const 0 dX9_takesDigit_27 (by decide) ?_
        refine s_iret dX9_takesDigit_28 rfl rfl ?_
        refine ⟨_, rfl, rfl, ?_⟩
        first
          | (have e9 : w_mo k = 1 := by unfold w_mo; rw [if_pos (by omega)]
             first
               | (rw [show decide (j = 0 ∨ (j < w_mo k ∧ 0 < v)) = true from decide_eq_true (by omega)]; rfl)
               | (rw [show decide (j = 0 ∨ (j < w_mo k ∧ 0 < v)) = false from decide_eq_false (by omega)]; rfl))
          | (have e9 : w_mo k = 3 := by unfold w_mo; rw [if_neg (by omega)]
             first
               | (rw [show decide (j = 0 ∨ (j < w_mo k ∧ 0 < v)) = true from decide_eq_true (by omega)]; rfl)
               | (rw [show decide (j = 0 ∨ (j < w_mo k ∧ 0 < v)) = false from decide_eq_false (by omega)]; rfl))
      · refine n_const 1 dX9_takesDigit_23 (by decide) ?_
        refine r_goto (tgt := 28) dX9_takesDigit_24 (by decide) ?_
        refine s_iret dX9_takesDigit_28 rfl rfl ?_
        refine ⟨_, rfl, rfl, ?_⟩
        first
          | (have e9 : w_mo k = 1 := by unfold w_mo; rw [if_pos (by omega)]
             first
               | (rw [show decide (j = 0 ∨ (j < w_mo k ∧ 0 < v)) = true from decide_eq_true (by omega)]; rfl)
               | (rw [show decide (j = 0 ∨ (j < w_mo k ∧ 0 < v)) = false from decide_eq_false (by omega)]; rfl))
          | (have e9 : w_mo k = 3 := by unfold w_mo; rw [if_neg (by omega)]
             first
               | (rw [show decide (j = 0 ∨ (j < w_mo k ∧ 0 < v)) = true from decide_eq_true (by omega)]; rfl)
               | (rw [show decide (j = 0 ∨ (j < w_mo k ∧ 0 < v)) = false from decide_eq_false (by omega)]; rfl))
set_option maxRecDepth 20000 in
set_option maxHeartbeats 1000000 in
theorem c_kindBehind {G : q_G} {s : s_T} {k c : Nat} (h5 : s 206 5 = nI k) (hk : k < 6) (hc : c < 65536) : s_W G mX9_kindBehind 1 0 0 (c_I (fun y9 s1 => s1 = s ∧ y9 = oI (w_nx k c))) 0 (q_ent mX9_kindBehind [.ref 206, .int (nI c)]) [] s := by
  show s_W G mX9_kindBehind 1 0 0 _ 0 [some (.ref 206), some (.int (nI c))] [] s
  rcases (show k = 0 ∨ k = 1 ∨ k = 2 ∨ k = 3 ∨ k = 4 ∨ k = 5 by omega) with rfl | rfl | rfl | rfl | rfl | rfl
  · refine r_aload_n dX9_kindBehind_0 rfl rfl ?_
    refine s_getI dX9_kindBehind_1 fX9_50 lysX9 rfl h5 ?_
    refine r_tabIn (tgt := 40) dX9_kindBehind_4 (by decide) (by decide) rfl (by decide) ?_
    refine r_iload_n dX9_kindBehind_40 rfl rfl ?_
    refine n_bip 44 dX9_kindBehind_41 (by decide) ?_
    refine n_cne (tgt := 50) dX9_kindBehind_43 (by decide) (by omega) (by omega) (fun c43 => ?_) (fun c43 => ?_)
    · refine r_iconst (v := -1) dX9_kindBehind_50 (by decide) ?_
      refine s_iret dX9_kindBehind_51 rfl rfl ?_
      refine ⟨_, rfl, rfl, ?_⟩
      first
        | (rw [show w_nx 0 c = some 1 from by unfold w_nx; rw [if_pos rfl, if_pos c43]]; rfl)
        | (rw [show w_nx 0 c = none from by unfold w_nx; rw [if_pos rfl, if_neg c43]]; rfl)
    · refine n_const 1 dX9_kindBehind_46 (by decide) ?_
      refine r_goto (tgt := 51) dX9_kindBehind_47 (by decide) ?_
      refine s_iret dX9_kindBehind_51 rfl rfl ?_
      refine ⟨_, rfl, rfl, ?_⟩
      first
        | (rw [show w_nx 0 c = some 1 from by unfold w_nx; rw [if_pos rfl, if_pos c43]]; rfl)
        | (rw [show w_nx 0 c = none from by unfold w_nx; rw [if_pos rfl, if_neg c43]]; rfl)
  · refine r_aload_n dX9_kindBehind_0 rfl rfl ?_
    refine s_getI dX9_kindBehind_1 fX9_50 lysX9 rfl h5 ?_
    refine r_tabIn (tgt := 52) dX9_kindBehind_4 (by decide) (by decide) rfl (by decide) ?_
    refine r_iload_n dX9_kindBehind_52 rfl rfl ?_
    refine n_bip 44 dX9_kindBehind_53 (by decide) ?_
    refine n_cne (tgt := 62) dX9_kindBehind_55 (by decide) (by omega) (by omega) (fun c55 => ?_) (fun c55 => ?_)
    · refine r_iconst (v := -1) dX9_kindBehind_62 (by decide) ?_
      refine s_iret dX9_kindBehind_63 rfl rfl ?_
      refine ⟨_, rfl, rfl, ?_⟩
      first
        | (rw [show w_nx 1 c = some 2 from by unfold w_nx; rw [if_neg (by omega), if_pos rfl, if_pos c55]]; rfl)
        | (rw [show w_nx 1 c = none from by unfold w_nx; rw [if_neg (by omega), if_pos rfl, if_neg c55]]; rfl)
    · refine n_const 2 dX9_kindBehind_58 (by decide) ?_
      refine r_goto (tgt := 63) dX9_kindBehind_59 (by decide) ?_
      refine s_iret dX9_kindBehind_63 rfl rfl ?_
      refine ⟨_, rfl, rfl, ?_⟩
      first
        | (rw [show w_nx 1 c = some 2 from by unfold w_nx; rw [if_neg (by omega), if_pos rfl, if_pos c55]]; rfl)
        | (rw [show w_nx 1 c = none from by unfold w_nx; rw [if_neg (by omega), if_pos rfl, if_neg c55]]; rfl)
  · refine r_aload_n dX9_kindBehind_0 rfl rfl ?_
    refine s_getI dX9_kindBehind_1 fX9_50 lysX9 rfl h5 ?_
    refine r_tabIn (tgt := 64) dX9_kindBehind_4 (by decide) (by decide) rfl (by decide) ?_
    refine r_iload_n dX9_kindBehind_64 rfl rfl ?_
    refine n_bip 58 dX9_kindBehind_65 (by decide) ?_
    refine n_cne (tgt := 74) dX9_kindBehind_67 (by decide) (by omega) (by omega) (fun c67 => ?_) (fun c67 => ?_)
    · refine r_iconst (v := -1) dX9_kindBehind_74 (by decide) ?_
      refine s_iret dX9_kindBehind_75 rfl rfl ?_
      refine ⟨_, rfl, rfl, ?_⟩
      first
        | (rw [show w_nx 2 c = some 3 from by unfold w_nx; rw [if_neg (by omega), if_neg (by omega), if_pos rfl, if_pos c67]]; rfl)
        | (rw [show w_nx 2 c = none from by unfold w_nx; rw [if_neg (by omega), if_neg (by omega), if_pos rfl, if_neg c67]]; rfl)
    · refine n_const 3 dX9_kindBehind_70 (by decide) ?_
      refine r_goto (tgt := 75) dX9_kindBehind_71 (by decide) ?_
      refine s_iret dX9_kindBehind_75 rfl rfl ?_
      refine ⟨_, rfl, rfl, ?_⟩
      first
        | (rw [show w_nx 2 c = some 3 from by unfold w_nx; rw [if_neg (by omega), if_neg (by omega), if_pos rfl, if_pos c67]]; rfl)
        | (rw [show w_nx 2 c = none from by unfold w_nx; rw [if_neg (by omega), if_neg (by omega), if_pos rfl, if_neg c67]]; rfl)
  · refine r_aload_n dX9_kindBehind_0 rfl rfl ?_
    refine s_getI dX9_kindBehind_1 fX9_50 lysX9 rfl h5 ?_
    refine r_tabIn (tgt := 76) dX9_kindBehind_4 (by decide) (by decide) rfl (by decide) ?_
    refine r_iload_n dX9_kindBehind_76 rfl rfl ?_
    refine n_bip 46 dX9_kindBehind_77 (by decide) ?_
    refine n_cne (tgt := 86) dX9_kindBehind_79 (by decide) (by omega) (by omega) (fun c79 => ?_) (fun c79 => ?_)
    · refine r_iconst (v := -1) dX9_kindBehind_86 (by decide) ?_
      refine s_iret dX9_kindBehind_87 rfl rfl ?_
      refine ⟨_, rfl, rfl, ?_⟩
      first
        | (rw [show w_nx 3 c = some 4 from by unfold w_nx; rw [if_neg (by omega), if_neg (by omega), if_neg (by omega), if_pos rfl, if_pos c79]]; rfl)
        | (rw [show w_nx 3 c = none from by unfold w_nx; rw [if_neg (by omega), if_neg (by omega), if_neg (by omega), if_pos rfl, if_neg c79]]; rfl)
    · refine n_const 4 dX9_kindBehind_82 (by decide) ?_
      refine r_goto (tgt := 87) dX9_kindBehind_83 (by decide) ?_
      refine s_iret dX9_kindBehind_87 rfl rfl ?_
      refine ⟨_, rfl, rfl, ?_⟩
      first
        | (rw [show w_nx 3 c = some 4 from by unfold w_nx; rw [if_neg (by omega), if_neg (by omega), if_neg (by omega), if_pos rfl, if_pos c79]]; rfl)
        | (rw [show w_nx 3 c = none from by unfold w_nx; rw [if_neg (by omega), if_neg (by omega), if_neg (by omega), if_pos rfl, if_neg c79]]; rfl)
  · refine r_aload_n dX9_kindBehind_0 rfl rfl ?_
    refine s_getI dX9_kindBehind_1 fX9_50 lysX9 rfl h5 ?_
    refine r_tabIn (tgt := 88) dX9_kindBehind_4 (by decide) (by decide) rfl (by decide) ?_
    refine r_iload_n dX9_kindBehind_88 rfl rfl ?_
    refine n_bip 46 dX9_kindBehind_89 (by decide) ?_
    refine n_cne (tgt := 98) dX9_kindBehind_91 (by decide) (by omega) (by omega) (fun c91 => ?_) (fun c91 => ?_)
    · refine r_iconst (v := -1) dX9_kindBehind_98 (by decide) ?_
      refine s_iret dX9_kindBehind_99 rfl rfl ?_
      refine ⟨_, rfl, rfl, ?_⟩
      first
        | (rw [show w_nx 4 c = some 5 from by unfold w_nx; rw [if_neg (by omega), if_neg (by omega), if_neg (by omega), if_neg (by omega), if_pos rfl, if_pos c91]]; rfl)
        | (rw [show w_nx 4 c = none from by unfold w_nx; rw [if_neg (by omega), if_neg (by omega), if_neg (by omega), if_neg (by omega), if_pos rfl, if_neg c91]]; rfl)
    · refine n_const 5 dX9_kindBehind_94 (by decide) ?_
      refine r_goto (tgt := 99) dX9_kindBehind_95 (by decide) ?_
      refine s_iret dX9_kindBehind_99 rfl rfl ?_
      refine ⟨_, rfl, rfl, ?_⟩
      first
        | (rw [show w_nx 4 c = some 5 from by unfold w_nx; rw [if_neg (by omega), if_neg (by omega), if_neg (by omega), if_neg (by omega), if_pos rfl, if_pos c91]]; rfl)
        | (rw [show w_nx 4 c = none from by unfold w_nx; rw [if_neg (by omega), if_neg (by omega), if_neg (by omega), if_neg (by omega), if_pos rfl, if_neg c91]]; rfl)
  · refine r_aload_n dX9_kindBehind_0 rfl rfl ?_
    refine s_getI dX9_kindBehind_1 fX9_50 lysX9 rfl h5 ?_
    refine r_tabOut (tgt := 100) dX9_kindBehind_4 (by decide) (by decide) ?_
    refine r_iload_n dX9_kindBehind_100 rfl rfl ?_
    refine n_bip 47 dX9_kindBehind_101 (by decide) ?_
    refine n_cne (tgt := 108) dX9_kindBehind_103 (by decide) (by omega) (by omega) (fun c103 => ?_) (fun c103 => ?_)
    · refine r_iload_n dX9_kindBehind_108 rfl rfl ?_
      refine n_bip 59 dX9_kindBehind_109 (by decide) ?_
      refine n_cne (tgt := 118) dX9_kindBehind_111 (by decide) (by omega) (by omega) (fun c111 => ?_) (fun c111 => ?_)
      · refine r_iconst (v := -1) dX9_kindBehind_118 (by decide) ?_
        refine s_iret dX9_kindBehind_119 rfl rfl ?_
        refine ⟨_, rfl, rfl, ?_⟩
        first
          | (rw [show w_nx 5 c = some 3 from by unfold w_nx; rw [if_neg (by omega), if_neg (by omega), if_neg (by omega), if_neg (by omega), if_neg (by omega), if_pos c103]]; rfl)
          | (rw [show w_nx 5 c = some 0 from by unfold w_nx; rw [if_neg (by omega), if_neg (by omega), if_neg (by omega), if_neg (by omega), if_neg (by omega), if_neg c103, if_pos c111]]; rfl)
          | (rw [show w_nx 5 c = none from by unfold w_nx; rw [if_neg (by omega), if_neg (by omega), if_neg (by omega), if_neg (by omega), if_neg (by omega), if_neg c103, if_neg c111]]; rfl)
      · refine n_const 0 dX9_kindBehind_114 (by decide) ?_
        refine r_goto (tgt := 119) dX9_kindBehind_115 (by decide) ?_
        refine s_iret dX9_kindBehind_119 rfl rfl ?_
        refine ⟨_, rfl, rfl, ?_⟩
        first
          | (rw [show w_nx 5 c = some 3 from by unfold w_nx; rw [if_neg (by omega), if_neg (by omega), if_neg (by omega), if_neg (by omega), if_neg (by omega), if_pos c103]]; rfl)
          | (rw [show w_nx 5 c = some 0 from by unfold w_nx; rw [if_neg (by omega), if_neg (by omega), if_neg (by omega), if_neg (by omega), if_neg (by omega), if_neg c103, if_pos c111]]; rfl)
          | (rw [show w_nx 5 c = none from by unfold w_nx; rw [if_neg (by omega), if_neg (by omega), if_neg (by omega), if_neg (by omega), if_neg (by omega), if_neg c103, if_neg c111]]; rfl)
    · refine n_const 3 dX9_kindBehind_106 (by decide) ?_
      refine s_iret dX9_kindBehind_107 rfl rfl ?_
      refine ⟨_, rfl, rfl, ?_⟩
      first
        | (rw [show w_nx 5 c = some 3 from by unfold w_nx; rw [if_neg (by omega), if_neg (by omega), if_neg (by omega), if_neg (by omega), if_neg (by omega), if_pos c103]]; rfl)
        | (rw [show w_nx 5 c = some 0 from by unfold w_nx; rw [if_neg (by omega), if_neg (by omega), if_neg (by omega), if_neg (by omega), if_neg (by omega), if_neg c103, if_pos c111]]; rfl)
        | (rw [show w_nx 5 c = none from by unfold w_nx; rw [if_neg (by omega), if_neg (by omega), if_neg (by omega), if_neg (by omega), if_neg (by omega), if_neg c103, if_neg c111]]; rfl)
set_option maxRecDepth 20000 in
set_option maxHeartbeats 1000000 in
theorem c_findFault {G : q_G} {s : s_T} {t : Nat → Nat} {n : Nat} (hn0 : s 206 0 = nI n) (hn80 : n ≤ 80) (htx : ∀ k, k < n → s 207 k = nI (t k)) (hch : ∀ k, k < n → t k < 65536) : s_W G mX9_findFault 3 0 0 (c_I (fun y9 s1 => y9 = oI (w_fl t n 81 0 0) ∧ ((w_fl t n 81 0 0) = none → s1 206 2 = nI (w_M t n) ∧ w_M t n ≤ 80 ∧ w_M t n % 3 = 0 ∧ ∀ i, i < w_M t n → s1 208 i = nI (w_va t n i) ∧ s1 209 i = nI (w_ki t n i)) ∧ (s1 206 0 = s 206 0 ∧ s1 207 = s 207 ∧ s_fr 206 210 s s1))) 0 (q_ent mX9_findFault [.ref 206]) [] s := by
  show s_W G mX9_findFault 3 0 0 _ 0 [some (.ref 206), none, none, none] [] s
  have lp : ∀ f i k p j w (L2 : Option Value) (L3 : Option Value) u1, w_sq t n i = some (k, p) → (∀ a, a < j → w_tk t n k p a = true) → u1 206 5 = nI k → u1 206 6 = nI j → u1 206 7 = nI (w_pv t p j) → u1 206 2 = nI i → (∀ a, a < i → u1 208 a = nI (w_va t n a) ∧ u1 209 a = nI (w_ki t n a)) → w_fl t n w k p = (w_fl t n 81 0 0) → n < p + w → u1 206 0 = s 206 0 → u1 207 = s 207 → s_fr 206 210 s u1 → p + j ≤ n → n < p + j + f → s_W G mX9_findFault 3 0 0 (c_I (fun y9 s1 => y9 = oI (w_fl t n 81 0 0) ∧ ((w_fl t n 81 0 0) = none → s1 206 2 = nI (w_M t n) ∧ w_M t n ≤ 80 ∧ w_M t n % 3 = 0 ∧ ∀ i, i < w_M t n → s1 208 i = nI (w_va t n i) ∧ s1 209 i = nI (w_ki t n i)) ∧ (s1 206 0 = s 206 0 ∧ s1 207 = s 207 ∧ s_fr 206 210 s s1))) 12 [some (.ref 206), some (.int (nI (p + j))), L2, L3] [] u1 := by
    intro f
    induction f with
    | zero =>
      intro i k p j w L2 L3 u1 hq htk h5 h6 h7 h2 hA hX hw h0 h207 hf hpj hme
      exact absurd hme (by omega)
    | succ f ih =>
      intro i k p j w L2 L3 u1 hq htk h5 h6 h7 h2 hA hX hw h0 h207 hf hpj hme
      have hk := w_sq_ok i k p hq
      have hjc : j ≤ w_c t n k p := by
        apply Classical.byContradiction
        intro z
        have q := htk (w_c t n k p) (by omega)
        rw [(w_c_ok (t := t) (n := n) (k := k) (p := p)).2.1] at q
        cases q
      have hj3 := (w_c_ok (t := t) (n := n) (k := k) (p := p)).2.2
      have hv9 := w_pv_999 hjc
      obtain ⟨w', hw'⟩ : ∃ w', w = w' + 1 := ⟨w - 1, by omega⟩
      subst hw'
      have r75 : ∀ c (L3 : Option Value), c = t (p + j) → p + j < n → w_tk t n k p j = false → s_W G mX9_findFault 3 0 0 (c_I (fun y9 s1 => y9 = oI (w_fl t n 81 0 0) ∧ ((w_fl t n 81 0 0) = none → s1 206 2 = nI (w_M t n) ∧ w_M t n ≤ 80 ∧ w_M t n % 3 = 0 ∧ ∀ i, i < w_M t n → s1 208 i = nI (w_va t n i) ∧ s1 209 i = nI (w_ki t n i)) ∧ (s1 206 0 = s 206 0 ∧ s1 207 = s 207 ∧ s_fr 206 210 s s1))) 75 [some (.ref 206), some (.int (nI (p + j))), some (.int (nI c)), L3] [] u1 := by
        intro c L3 hct hlt htf
        have hce : w_c t n k p = j := w_c_eq htk htf
        have hc : c < 65536 := by rw [hct]; exact hch _ hlt
        rw [hct] at *
        cases hn : w_nx k (t (p + j)) with
        | none =>
          refine r_aload_n dX9_findFault_75 rfl rfl ?_
          refine r_iload_n dX9_findFault_76 rfl rfl ?_
          refine s_V1I mX9_kindBehind dX9_findFault_77 okX9_kindBehind lX9_43 npX9_kindBehind lysX9 rfl (by decide) (by decide) (by decide) (Nat.le_of_ble_eq_true rfl) (Nat.le_of_ble_eq_true rfl) (c_kindBehind h5 (by omega) hc) (fun x s1 hq9 => ?_)
          obtain ⟨rfl, e9⟩ := hq9
          rw [hn] at e9
          have e9 : x = -1 := e9
          subst e9
          refine r_istore_n dX9_findFault_80 rfl (by decide) rfl ?_
          refine r_aload_n dX9_findFault_81 rfl rfl ?_
          refine s_getI dX9_findFault_82 fX9_40 lysX9 rfl h6 ?_
          refine n_ifeq (tgt := 93) dX9_findFault_85 (by decide) (by omega) (fun c85 => ?_) (fun c85 => ?_)
          · refine r_iload_n dX9_findFault_93 rfl rfl ?_
            refine s_iret dX9_findFault_94 rfl rfl ?_
            first
              | (refine ⟨_, rfl, ?_, fun z => ?_, h0, h207, hf⟩
                 · rw [← hX, w_fl_0 (by omega), show p + j = p by omega]; rfl
                 · rw [← hX, w_fl_0 (by omega)] at z; cases z)
              | (refine ⟨_, rfl, ?_, fun z => ?_, h0, h207, hf⟩
                 · rw [← hX, w_fl_b (by omega) (by omega) (by rw [hce]; exact hn), hce]; rfl
                 · rw [← hX, w_fl_b (by omega) (by omega) (by rw [hce]; exact hn)] at z; cases z)
          · refine r_iload_n dX9_findFault_88 rfl rfl ?_
            refine r_iconst (v := -1) dX9_findFault_89 (by decide) ?_
            refine r_icmp_ne (tgt := 95) dX9_findFault_90 (by decide) (fun c90 => ?_) (fun c90 => ?_)
            · exact absurd rfl c90
            · refine r_iload_n dX9_findFault_93 rfl rfl ?_
              refine s_iret dX9_findFault_94 rfl rfl ?_
              first
                | (refine ⟨_, rfl, ?_, fun z => ?_, h0, h207, hf⟩
                   · rw [← hX, w_fl_0 (by omega), show p + j = p by omega]; rfl
                   · rw [← hX, w_fl_0 (by omega)] at z; cases z)
                | (refine ⟨_, rfl, ?_, fun z => ?_, h0, h207, hf⟩
                   · rw [← hX, w_fl_b (by omega) (by omega) (by rw [hce]; exact hn), hce]; rfl
                   · rw [← hX, w_fl_b (by omega) (by omega) (by rw [hce]; exact hn)] at z; cases z)
        | some k' =>
          have hk9 := w_nx_k (show k < 6 by omega) hn
          refine r_aload_n dX9_findFault_75 rfl rfl ?_
          refine r_iload_n dX9_findFault_76 rfl rfl ?_
          refine s_V1I mX9_kindBehind dX9_findFault_77 okX9_kindBehind lX9_43 npX9_kindBehind lysX9 rfl (by decide) (by decide) (by decide) (Nat.le_of_ble_eq_true rfl) (Nat.le_of_ble_eq_true rfl) (c_kindBehind h5 (by omega) hc) (fun x s1 hq9 => ?_)
          obtain ⟨rfl, e9⟩ := hq9
          rw [hn] at e9
          have e9 : x = nI k' := e9
          subst e9
          refine r_istore_n dX9_findFault_80 rfl (by decide) rfl ?_
          refine r_aload_n dX9_findFault_81 rfl rfl ?_
          refine s_getI dX9_findFault_82 fX9_40 lysX9 rfl h6 ?_
          refine n_ifeq (tgt := 93) dX9_findFault_85 (by decide) (by omega) (fun c85 => ?_) (fun c85 => ?_)
          · refine r_iload_n dX9_findFault_93 rfl rfl ?_
            refine s_iret dX9_findFault_94 rfl rfl ?_
            refine ⟨_, rfl, ?_, fun z => ?_, h0, h207, hf⟩
            · rw [← hX, w_fl_0 (by omega), show p + j = p by omega]; rfl
            · rw [← hX, w_fl_0 (by omega)] at z; cases z
          · refine r_iload_n dX9_findFault_88 rfl rfl ?_
            refine r_iconst (v := -1) dX9_findFault_89 (by decide) ?_
            refine r_icmp_ne (tgt := 95) dX9_findFault_90 (by decide) (fun c90 => ?_) (fun c90 => ?_)
            · refine r_aload_n dX9_findFault_95 rfl rfl ?_
              refine s_V0V mX9_endNumber dX9_findFault_96 okX9_endNumber lX9_47 npX9_endNumber lysX9 rfl (by decide) (by decide) (by decide) (Nat.le_of_ble_eq_true rfl) (Nat.le_of_ble_eq_true rfl) (c_endNumber h2 (by omega)) (fun s1 hq9 => ?_)
              obtain ⟨y1, y2, y3, y4, hf1⟩ := hq9
              refine r_aload_n dX9_findFault_99 rfl rfl ?_
              refine r_iload_n dX9_findFault_100 rfl rfl ?_
              refine s_V1V mX9_beginNumber dX9_findFault_101 okX9_beginNumber lX9_29 npX9_beginNumber lysX9 rfl (by decide) (by decide) (by decide) (Nat.le_of_ble_eq_true rfl) (Nat.le_of_ble_eq_true rfl) c_beginNumber (fun s1 hq9 => ?_)
              obtain ⟨y5, hf2⟩ := hq9
              refine n_inc dX9_findFault_104 rfl (n_i1 _) (by decide) rfl ?_
              refine r_goto (tgt := 12) dX9_findFault_107 (by decide) ?_
              have hq2 : w_sq t n (i + 1) = some (k', p + j + 1) := by
                have q := w_sq_s hq (by omega) (by omega) (by rw [hce]; exact hn)
                rw [hce] at q
                exact q
              refine ih (i + 1) k' (p + j + 1) 0 w' _ _ s1 hq2 (fun a ha => absurd ha (by omega)) ?_ ?_ ?_ ?_ (fun a ha => ?_) ?_ (by omega) ?_ ?_ (s_fr_tr hf (s_fr_tr hf1 (s_fr_w hf2 (by omega) (by omega)))) (by omega) (by omega)
              · rw [y5, pk_un (by decide), pk_un (by decide), pk_us]
              · rw [y5, pk_un (by decide), pk_us]
              · rw [y5, pk_us]; rfl
              · rw [y5, pk_un (by decide), pk_un (by decide), pk_un (by decide), y3, pk_us]
              · rw [hf2 208 (by omega), hf2 209 (by omega), y1, y2]
                by_cases e : a = i
                · subst e
                  rw [pk_us, pk_us, w_va_e hq, w_ki_e hq, hce]
                  exact ⟨h7, h5⟩
                · rw [pk_un e, pk_un e]; exact hA a (by omega)
              · rw [← hX, w_fl_s (by omega) (by omega) (by rw [hce]; exact hn), hce]
              · rw [y5, pk_un (by decide), pk_un (by decide), pk_un (by decide), y3, pk_un (by decide)]; exact h0
              · rw [hf2 207 (by omega), y4]; exact h207
            · exact absurd c90 (nI_m1 (by omega))
      refine r_iload_n dX9_findFault_12 rfl rfl ?_
      refine r_aload_n dX9_findFault_13 rfl rfl ?_
      refine s_getI dX9_findFault_14 fX9_22 lysX9 rfl (h0.trans hn0) ?_
      refine n_cge (tgt := 110) dX9_findFault_17 (by decide) (by omega) (by omega) (fun c17 => ?_) (fun c17 => ?_)
      · have hpn : p + j = n := by omega
        have hce : w_c t n k p = j := w_c_eq htk (decide_eq_false (fun z => by omega))
        refine r_aload_n dX9_findFault_110 rfl rfl ?_
        refine s_getI dX9_findFault_111 fX9_50 lysX9 rfl h5 ?_
        refine n_const 5 dX9_findFault_114 (by decide) ?_
        refine n_cne (tgt := 125) dX9_findFault_115 (by decide) (by omega) (by omega) (fun c115 => ?_) (fun c115 => ?_)
        · refine r_aload_n dX9_findFault_125 rfl rfl ?_
          refine s_getI dX9_findFault_126 fX9_22 lysX9 rfl (h0.trans hn0) ?_
          refine s_iret dX9_findFault_129 rfl rfl ?_
          by_cases hz9 : w_c t n k p = 0
          · refine ⟨_, rfl, ?_, fun z => ?_, h0, h207, hf⟩
            · rw [← hX, w_fl_0 hz9, show n = p by omega]; rfl
            · rw [← hX, w_fl_0 hz9] at z; cases z
          · refine ⟨_, rfl, ?_, fun z => ?_, h0, h207, hf⟩
            · rw [← hX, w_fl_e hz9 (by omega) (by omega), show p + w_c t n k p = n by omega]; rfl
            · rw [← hX, w_fl_e hz9 (by omega) (by omega)] at z; cases z
        · refine r_aload_n dX9_findFault_118 rfl rfl ?_
          refine s_getI dX9_findFault_119 fX9_40 lysX9 rfl h6 ?_
          refine n_ifne (tgt := 130) dX9_findFault_122 (by decide) (by omega) (fun c122 => ?_) (fun c122 => ?_)
          · refine r_aload_n dX9_findFault_130 rfl rfl ?_
            refine s_V0V mX9_endNumber dX9_findFault_131 okX9_endNumber lX9_47 npX9_endNumber lysX9 rfl (by decide) (by decide) (by decide) (Nat.le_of_ble_eq_true rfl) (Nat.le_of_ble_eq_true rfl) (c_endNumber h2 (by omega)) (fun s1 hq9 => ?_)
            obtain ⟨y1, y2, y3, y4, hf1⟩ := hq9
            refine r_iconst (v := -1) dX9_findFault_134 (by decide) ?_
            refine s_iret dX9_findFault_135 rfl rfl ?_
            have hM9 := w_M_eq hn80 hq (show ¬ p + w_c t n k p < n by omega)
            refine ⟨_, rfl, ?_, fun _ => ⟨?_, by omega, by omega, fun a ha => ?_⟩, ?_, ?_, s_fr_tr hf hf1⟩
            · rw [← hX, w_fl_n (by omega) (by omega) (by omega)]; rfl
            · rw [y3, pk_us, hM9]
            · rw [y1, y2]
              by_cases e : a = i
              · subst e
                rw [pk_us, pk_us, w_va_e hq, w_ki_e hq, hce]
                exact ⟨h7, h5⟩
              · rw [pk_un e, pk_un e]; exact hA a (by omega)
            · rw [y3, pk_un (by decide)]; exact h0
            · rw [y4]; exact h207
          · refine r_aload_n dX9_findFault_125 rfl rfl ?_
            refine s_getI dX9_findFault_126 fX9_22 lysX9 rfl (h0.trans hn0) ?_
            refine s_iret dX9_findFault_129 rfl rfl ?_
            by_cases hz9 : w_c t n k p = 0
            · refine ⟨_, rfl, ?_, fun z => ?_, h0, h207, hf⟩
              · rw [← hX, w_fl_0 hz9, show n = p by omega]; rfl
              · rw [← hX, w_fl_0 hz9] at z; cases z
            · refine ⟨_, rfl, ?_, fun z => ?_, h0, h207, hf⟩
              · rw [← hX, w_fl_e hz9 (by omega) (by omega), show p + w_c t n k p = n by omega]; rfl
              · rw [← hX, w_fl_e hz9 (by omega) (by omega)] at z; cases z
      · have hch9 := hch _ c17
        refine r_aload_n dX9_findFault_20 rfl rfl ?_
        refine s_getR dX9_findFault_21 fX9_9 lysX9 rfl ?_
        refine r_iload_n dX9_findFault_24 rfl rfl ?_
        refine a_cld dX9_findFault_25 rfl (by omega) (by decide) (show u1 207 (p + j) = nI (t (p + j)) by rw [h207]; exact htx _ c17) ?_
        refine r_istore_n dX9_findFault_26 rfl (by decide) rfl ?_
        refine r_iload_n dX9_findFault_27 rfl rfl ?_
        refine n_bip 48 dX9_findFault_28 (by decide) ?_
        refine n_clt (tgt := 75) dX9_findFault_30 (by decide) (by omega) (by omega) (fun c30 => ?_) (fun c30 => ?_)
        · first
            | exact r75 _ _ rfl c17 (decide_eq_false (fun z => by omega))
            | exact r75 _ _ rfl c17 (decide_eq_false (fun z => (of_decide_eq_false c43) z.2.2.2))
        · refine r_iload_n dX9_findFault_33 rfl rfl ?_
          refine n_bip 57 dX9_findFault_34 (by decide) ?_
          refine n_cgt (tgt := 75) dX9_findFault_36 (by decide) (by omega) (by omega) (fun c36 => ?_) (fun c36 => ?_)
          · first
              | exact r75 _ _ rfl c17 (decide_eq_false (fun z => by omega))
              | exact r75 _ _ rfl c17 (decide_eq_false (fun z => (of_decide_eq_false c43) z.2.2.2))
          · refine r_aload_n dX9_findFault_39 rfl rfl ?_
            refine s_V0I mX9_takesDigit dX9_findFault_40 okX9_takesDigit lX9_33 npX9_takesDigit lysX9 rfl (by decide) (by decide) (by decide) (Nat.le_of_ble_eq_true rfl) (Nat.le_of_ble_eq_true rfl) (c_takesDigit h5 h6 h7 (by omega) (by omega) hv9) (fun x s1 hq9 => ?_)
            obtain ⟨e9, rfl⟩ := hq9
            replace e9 := e9.symm
            subst e9
            refine b_ifeq (tgt := 75) dX9_findFault_43 (by decide) (fun c43 => ?_) (fun c43 => ?_)
            · first
                | exact r75 _ _ rfl c17 (decide_eq_false (fun z => by omega))
                | exact r75 _ _ rfl c17 (decide_eq_false (fun z => (of_decide_eq_false c43) z.2.2.2))
            · have htk9 : w_tk t n k p j = true := decide_eq_true ⟨c17, c30, by omega, of_decide_eq_true c43⟩
              refine r_aload_n dX9_findFault_46 rfl rfl ?_
              refine r_aload_n dX9_findFault_47 rfl rfl ?_
              refine s_getI dX9_findFault_48 fX9_37 lysX9 rfl h7 ?_
              refine n_bip 10 dX9_findFault_51 (by decide) ?_
              refine n_mul dX9_findFault_53 ?_
              refine r_iload_n dX9_findFault_54 rfl rfl ?_
              refine n_bip 48 dX9_findFault_55 (by decide) ?_
              refine n_sub dX9_findFault_57 (by omega) ?_
              refine n_add dX9_findFault_58 ?_
              refine a_put dX9_findFault_59 gX9_37 lysX9 rfl rfl rfl (fun s2 hs2 hf2 => ?_)
              refine r_aload_n dX9_findFault_62 rfl rfl ?_
              refine r_dup dX9_findFault_63 rfl ?_
              refine s_getI dX9_findFault_64 fX9_40 lysX9 rfl (show s2 206 6 = nI j by rw [hs2, pk_un (by decide)]; exact h6) ?_
              refine n_const 1 dX9_findFault_67 (by decide) ?_
              refine n_add dX9_findFault_68 ?_
              refine a_put dX9_findFault_69 gX9_40 lysX9 rfl rfl rfl (fun s3 hs3 hf3 => ?_)
              refine r_goto (tgt := 104) dX9_findFault_72 (by decide) ?_
              refine n_inc dX9_findFault_104 rfl (n_i1 _) (by decide) rfl ?_
              refine r_goto (tgt := 12) dX9_findFault_107 (by decide) ?_
              refine ih i k p (j + 1) (w' + 1) _ _ s3 hq (fun a ha => ?_) ?_ ?_ ?_ ?_ (fun a ha => ?_) hX (by omega) ?_ ?_ (s_fr_tr hf (s_fr_tr (s_fr_w hf2 (by omega) (by omega)) (s_fr_w hf3 (by omega) (by omega)))) (by omega) (by omega)
              · by_cases e : a = j
                · subst e; exact htk9
                · exact htk a (by omega)
              · rw [hs3, pk_un (by decide), hs2, pk_un (by decide)]; exact h5
              · rw [hs3, pk_us]
              · rw [hs3, pk_un (by decide), hs2, pk_us, Nat.mul_comm]; rfl
              · rw [hs3, pk_un (by decide), hs2, pk_un (by decide)]; exact h2
              · rw [hf3 208 (by omega), hf3 209 (by omega), hf2 208 (by omega), hf2 209 (by omega)]; exact hA a ha
              · rw [hs3, pk_un (by decide), hs2, pk_un (by decide)]; exact h0
              · rw [hf3 207 (by omega), hf2 207 (by omega)]; exact h207
  refine r_aload_n dX9_findFault_0 rfl rfl ?_
  refine n_const 0 dX9_findFault_1 (by decide) ?_
  refine a_put dX9_findFault_2 gX9_26 lysX9 rfl rfl rfl (fun s2 hs2 hf2 => ?_)
  refine r_aload_n dX9_findFault_5 rfl rfl ?_
  refine n_const 0 dX9_findFault_6 (by decide) ?_
  refine s_V1V mX9_beginNumber dX9_findFault_7 okX9_beginNumber lX9_29 npX9_beginNumber lysX9 rfl (by decide) (by decide) (by decide) (Nat.le_of_ble_eq_true rfl) (Nat.le_of_ble_eq_true rfl) c_beginNumber (fun s1 hq => ?_)
  obtain ⟨y5, hf3⟩ := hq
  refine n_const 0 dX9_findFault_10 (by decide) ?_
  refine r_istore_n dX9_findFault_11 rfl (by decide) rfl ?_
  exact lp (n + 1) 0 0 0 0 81 _ _ s1 rfl (fun a ha => absurd ha (by omega)) (by rw [y5, pk_un (by decide), pk_un (by decide), pk_us]) (by rw [y5, pk_un (by decide), pk_us]) (by rw [y5, pk_us]; rfl) (by rw [y5, pk_un (by decide), pk_un (by decide), pk_un (by decide), hs2, pk_us]) (fun a ha => absurd ha (by omega)) rfl (by omega) (by rw [y5, pk_un (by decide), pk_un (by decide), pk_un (by decide), hs2, pk_un (by decide)]) (by rw [hf3 207 (by omega), hf2 207 (by omega)]) (s_fr_tr (s_fr_w hf2 (by omega) (by omega)) (s_fr_w hf3 (by omega) (by omega))) (by omega) (by omega)
end
