section
/-! ===== the class: making what a text says ===== -/
theorem w_jf_e {a b c : Nat} (ha : a ≤ 999) (hb : b ≤ 999) (hc : c ≤ 999) : (iIn (nI a) 0 99 && iIn (nI b) 0 200 && iIn (nI c) 0 9) = w_jf a b c := by
  rw [iIn_nI (by omega), iIn_nI (by omega), iIn_nI (by omega)]
  unfold w_jf
  rw [show decide (0 ≤ a ∧ a ≤ 99) = decide (a ≤ 99) from decide_eq_decide.mpr ⟨fun z => z.2, fun z => ⟨by omega, z⟩⟩, show decide (0 ≤ b ∧ b ≤ 200) = decide (b ≤ 200) from decide_eq_decide.mpr ⟨fun z => z.2, fun z => ⟨by omega, z⟩⟩, show decide (0 ≤ c ∧ c ≤ 9) = decide (c ≤ 9) from decide_eq_decide.mpr ⟨fun z => z.2, fun z => ⟨by omega, z⟩⟩]
theorem w_ki_lt {t : Nat → Nat} {n i : Nat} : w_ki t n i < 6 := by
  unfold w_ki
  cases h : w_sq t n i with
  | none => show 0 < 6; omega
  | some a => exact (w_sq_ok i a.1 a.2 h).1
theorem a_pi_i (c : Nat) : a_pi c + Int32.ofInt 1 = nI c := by
  cases c with
  | zero => decide
  | succ c => exact n_i1 c
theorem w_ex_rr {t : Nat → Nat} {n : Nat} {X : x_T} {w : Nat × Nat × Nat} : ∀ d j, w_ex t n X j = .inr w → w_ex t n X (j + d) = .inr w
  | 0, j, h => h
  | d + 1, j, h => w_ex_r (w_ex_rr d j h)
set_option maxRecDepth 20000 in
set_option maxHeartbeats 1000000 in
theorem c_reasonAgainstJob {G : q_G} {s : s_T} {X : x_T} {o at9 a b c : Nat} (ho : isX7 o) (hC : c_R X s o) (hw : x_wf X) (hv0 : s 208 at9 = nI a) (hv1 : s 208 (at9 + 1) = nI b) (hv2 : s 208 (at9 + 2) = nI c) (ha : a ≤ 999) (hb : b ≤ 999) (hc : c ≤ 999) (hat : at9 + 2 < 80) : s_W G mX9_reasonAgainstJob 3 0 0 (c_I (fun y9 s1 => s1 = s ∧ y9 = nI (if X 0 = 5 then 1 else if w_jf a b c = true then 0 else 2))) 0 (q_ent mX9_reasonAgainstJob [.ref 206, .ref o, .int (nI at9)]) [] s := by
  show s_W G mX9_reasonAgainstJob 3 0 0 _ 0 [some (.ref 206), some (.ref o), some (.int (nI at9))] [] s
  have hs := x_sz hw
  refine r_aload_n dX9_reasonAgainstJob_0 rfl rfl ?_
  refine s_getI dX9_reasonAgainstJob_1 fX9_76 (layX7 ho) rfl (cl_jobs hC) ?_
  refine n_const 5 dX9_reasonAgainstJob_4 (by decide) ?_
  refine n_clt (tgt := 10) dX9_reasonAgainstJob_5 (by decide) (by omega) (by omega) (fun c5 => ?_) (fun c5 => ?_)
  · refine r_aload_n dX9_reasonAgainstJob_10 rfl rfl ?_
    refine s_getR dX9_reasonAgainstJob_11 fX9_15 lysX9 rfl ?_
    refine r_iload_n dX9_reasonAgainstJob_14 rfl rfl ?_
    refine a_ld dX9_reasonAgainstJob_15 rfl (by omega) (by decide) (by first | exact hv0 | exact hv1 | exact hv2) ?_
    refine r_aload_n dX9_reasonAgainstJob_16 rfl rfl ?_
    refine s_getR dX9_reasonAgainstJob_17 fX9_15 lysX9 rfl ?_
    refine r_iload_n dX9_reasonAgainstJob_20 rfl rfl ?_
    refine n_const 1 dX9_reasonAgainstJob_21 (by decide) ?_
    refine n_add dX9_reasonAgainstJob_22 ?_
    refine a_ld dX9_reasonAgainstJob_23 rfl (by omega) (by decide) (by first | exact hv0 | exact hv1 | exact hv2) ?_
    refine r_aload_n dX9_reasonAgainstJob_24 rfl rfl ?_
    refine s_getR dX9_reasonAgainstJob_25 fX9_15 lysX9 rfl ?_
    refine r_iload_n dX9_reasonAgainstJob_28 rfl rfl ?_
    refine n_const 2 dX9_reasonAgainstJob_29 (by decide) ?_
    refine n_add dX9_reasonAgainstJob_30 ?_
    refine a_ld dX9_reasonAgainstJob_31 rfl (by omega) (by decide) (by first | exact hv0 | exact hv1 | exact hv2) ?_
    refine s_N3I mX11_jobFits dX9_reasonAgainstJob_32 okX11_jobFits lX9_83 npX11_jobFits (by decide) (by decide) (by decide) (Nat.le_of_ble_eq_true rfl) (Nat.le_of_ble_eq_true rfl) c_jobFits (fun x s1 hq => ?_)
    obtain ⟨rfl, rfl⟩ := hq
    rw [w_jf_e ha hb hc]
    refine b_ifeq (tgt := 42) dX9_reasonAgainstJob_35 (by decide) (fun c35 => ?_) (fun c35 => ?_)
    · refine n_const 2 dX9_reasonAgainstJob_42 (by decide) ?_
      refine s_iret dX9_reasonAgainstJob_43 rfl rfl ?_
      refine ⟨_, rfl, rfl, ?_⟩
      first
        | (rw [if_pos (by omega)])
        | (rw [if_neg (by omega), if_pos c35])
        | (rw [if_neg (by omega), if_neg (by rw [c35]; decide)])
    · refine n_const 0 dX9_reasonAgainstJob_38 (by decide) ?_
      refine r_goto (tgt := 43) dX9_reasonAgainstJob_39 (by decide) ?_
      refine s_iret dX9_reasonAgainstJob_43 rfl rfl ?_
      refine ⟨_, rfl, rfl, ?_⟩
      first
        | (rw [if_pos (by omega)])
        | (rw [if_neg (by omega), if_pos c35])
        | (rw [if_neg (by omega), if_neg (by rw [c35]; decide)])
  · refine n_const 1 dX9_reasonAgainstJob_8 (by decide) ?_
    refine s_iret dX9_reasonAgainstJob_9 rfl rfl ?_
    refine ⟨_, rfl, rfl, ?_⟩
    first
      | (rw [if_pos (by omega)])
      | (rw [if_neg (by omega), if_pos c35])
      | (rw [if_neg (by omega), if_neg (by rw [c35]; decide)])
set_option maxRecDepth 20000 in
set_option maxHeartbeats 1000000 in
theorem c_operationFits {G : q_G} {s : s_T} {X : x_T} {o at9 a b c : Nat} (ho : isX7 o) (hC : c_R X s o) (hw : x_wf X) (h0 : 0 < X 0) (hv0 : s 208 at9 = nI a) (hv1 : s 208 (at9 + 1) = nI b) (hv2 : s 208 (at9 + 2) = nI c) (ha : a ≤ 999) (hb : b ≤ 999) (hc : c ≤ 999) (hat : at9 + 2 < 80) : s_W G mX9_operationFits 3 0 0 (c_I (fun y9 s1 => s1 = s ∧ y9 = bI (w_of X a b c))) 0 (q_ent mX9_operationFits [.ref 206, .ref o, .int (nI at9)]) [] s := by
  show s_W G mX9_operationFits 3 0 0 _ 0 [some (.ref 206), some (.ref o), some (.int (nI at9))] [] s
  have hs := x_sz hw
  have e1 : iLt (nI a) 4 = decide (a < 4) := iLt_nI (by omega)
  have e2 : iIn (nI b) 1 30 = decide (1 ≤ b ∧ b ≤ 30) := iIn_nI (by omega)
  have e3 : iLt (nI c) 3 = decide (c < 3) := iLt_nI (by omega)
  refine r_aload_n dX9_operationFits_0 rfl rfl ?_
  refine s_getR dX9_operationFits_1 fX9_15 lysX9 rfl ?_
  refine r_iload_n dX9_operationFits_4 rfl rfl ?_
  refine a_ld dX9_operationFits_5 rfl (by omega) (by decide) (by first | exact hv0 | exact hv1 | exact hv2) ?_
  refine s_N1I mX11_isMachine dX9_operationFits_6 okX11_isMachine lX9_87 npX11_isMachine (by decide) (by decide) (by decide) (Nat.le_of_ble_eq_true rfl) (Nat.le_of_ble_eq_true rfl) c_isMachine (fun x s1 hq => ?_)
  obtain ⟨rfl, rfl⟩ := hq
  rw [e1]
  refine b_ifeq (tgt := 70) dX9_operationFits_9 (by decide) (fun c9 => ?_) (fun c9 => ?_)
  · refine n_const 0 dX9_operationFits_70 (by decide) ?_
    refine s_iret dX9_operationFits_71 rfl rfl ?_
    refine ⟨_, rfl, rfl, ?_⟩
    unfold w_of
    first
      | (rw [c9, c23, c37, c63]; rfl)
      | (rw [c9, c23, c37, c63]; rfl)
      | (rw [c9, c23, c37]; rfl)
      | (rw [c9, c23]; rfl)
      | (rw [c9]; rfl)
  · refine r_aload_n dX9_operationFits_12 rfl rfl ?_
    refine s_getR dX9_operationFits_13 fX9_15 lysX9 rfl ?_
    refine r_iload_n dX9_operationFits_16 rfl rfl ?_
    refine n_const 1 dX9_operationFits_17 (by decide) ?_
    refine n_add dX9_operationFits_18 ?_
    refine a_ld dX9_operationFits_19 rfl (by omega) (by decide) (by first | exact hv0 | exact hv1 | exact hv2) ?_
    refine s_N1I mX11_durationFits dX9_operationFits_20 okX11_durationFits lX9_91 npX11_durationFits (by decide) (by decide) (by decide) (Nat.le_of_ble_eq_true rfl) (Nat.le_of_ble_eq_true rfl) c_durationFits (fun x s1 hq => ?_)
    obtain ⟨rfl, rfl⟩ := hq
    rw [e2]
    refine b_ifeq (tgt := 70) dX9_operationFits_23 (by decide) (fun c23 => ?_) (fun c23 => ?_)
    · refine n_const 0 dX9_operationFits_70 (by decide) ?_
      refine s_iret dX9_operationFits_71 rfl rfl ?_
      refine ⟨_, rfl, rfl, ?_⟩
      unfold w_of
      first
        | (rw [c9, c23, c37, c63]; rfl)
        | (rw [c9, c23, c37, c63]; rfl)
        | (rw [c9, c23, c37]; rfl)
        | (rw [c9, c23]; rfl)
        | (rw [c9]; rfl)
    · refine r_aload_n dX9_operationFits_26 rfl rfl ?_
      refine s_getR dX9_operationFits_27 fX9_15 lysX9 rfl ?_
      refine r_iload_n dX9_operationFits_30 rfl rfl ?_
      refine n_const 2 dX9_operationFits_31 (by decide) ?_
      refine n_add dX9_operationFits_32 ?_
      refine a_ld dX9_operationFits_33 rfl (by omega) (by decide) (by first | exact hv0 | exact hv1 | exact hv2) ?_
      refine s_N1I mX11_isFamily dX9_operationFits_34 okX11_isFamily lX9_94 npX11_isFamily (by decide) (by decide) (by decide) (Nat.le_of_ble_eq_true rfl) (Nat.le_of_ble_eq_true rfl) c_isFamily (fun x s1 hq => ?_)
      obtain ⟨rfl, rfl⟩ := hq
      rw [e3]
      refine b_ifeq (tgt := 70) dX9_operationFits_37 (by decide) (fun c37 => ?_) (fun c37 => ?_)
      · refine n_const 0 dX9_operationFits_70 (by decide) ?_
        refine s_iret dX9_operationFits_71 rfl rfl ?_
        refine ⟨_, rfl, rfl, ?_⟩
        unfold w_of
        first
          | (rw [c9, c23, c37, c63]; rfl)
          | (rw [c9, c23, c37, c63]; rfl)
          | (rw [c9, c23, c37]; rfl)
          | (rw [c9, c23]; rfl)
          | (rw [c9]; rfl)
      · refine r_aload_n dX9_operationFits_40 rfl rfl ?_
        refine s_getI dX9_operationFits_41 fX9_76 (layX7 ho) rfl (cl_jobs hC) ?_
        refine n_ifle (tgt := 70) dX9_operationFits_44 (by decide) (by omega) (fun c44 => ?_) (fun c44 => ?_)
        · exact absurd c44 (by omega)
        · refine r_aload_n dX9_operationFits_47 rfl rfl ?_
          refine r_aload_n dX9_operationFits_48 rfl rfl ?_
          refine s_getI dX9_operationFits_49 fX9_76 (layX7 ho) rfl (cl_jobs hC) ?_
          refine n_const 1 dX9_operationFits_52 (by decide) ?_
          refine n_sub dX9_operationFits_53 (by omega) ?_
          refine r_aload_n dX9_operationFits_54 rfl rfl ?_
          refine s_getR dX9_operationFits_55 fX9_15 lysX9 rfl ?_
          refine r_iload_n dX9_operationFits_58 rfl rfl ?_
          refine a_ld dX9_operationFits_59 rfl (by omega) (by decide) (by first | exact hv0 | exact hv1 | exact hv2) ?_
          refine s_V2I mX7_accepts dX9_operationFits_60 okX7_accepts lX9_97 npX7_accepts (layX7 ho) rfl (by decide) (by decide) (by decide) (Nat.le_of_ble_eq_true rfl) (Nat.le_of_ble_eq_true rfl) (c_accepts ho hC hw (by omega) (of_decide_eq_true c9)) (fun x s1 hq => ?_)
          obtain ⟨rfl, rfl⟩ := hq
          refine b_ifeq (tgt := 70) dX9_operationFits_63 (by decide) (fun c63 => ?_) (fun c63 => ?_)
          · refine n_const 0 dX9_operationFits_70 (by decide) ?_
            refine s_iret dX9_operationFits_71 rfl rfl ?_
            refine ⟨_, rfl, rfl, ?_⟩
            unfold w_of
            first
              | (rw [c9, c23, c37, c63]; rfl)
              | (rw [c9, c23, c37, c63]; rfl)
              | (rw [c9, c23, c37]; rfl)
              | (rw [c9, c23]; rfl)
              | (rw [c9]; rfl)
          · refine n_const 1 dX9_operationFits_66 (by decide) ?_
            refine r_goto (tgt := 71) dX9_operationFits_67 (by decide) ?_
            refine s_iret dX9_operationFits_71 rfl rfl ?_
            refine ⟨_, rfl, rfl, ?_⟩
            unfold w_of
            first
              | (rw [c9, c23, c37, c63]; rfl)
              | (rw [c9, c23, c37, c63]; rfl)
              | (rw [c9, c23, c37]; rfl)
              | (rw [c9, c23]; rfl)
              | (rw [c9]; rfl)
set_option maxRecDepth 20000 in
set_option maxHeartbeats 1000000 in
theorem c_refuse {G : q_G} {s : s_T} {j r : Nat} : s_W G mX9_refuse 2 0 0 (c_V (fun s1 => (s1 211 0 = nI 3 ∧ s1 211 1 = nI (100 + j) ∧ s1 211 2 = nI r) ∧ s1 210 0 = nI 3 ∧ s_fr 210 212 s s1)) 0 (q_ent mX9_refuse [.ref 210, .int (nI j), .int (nI r)]) [] s := by
  show s_W G mX9_refuse 2 0 0 _ 0 [some (.ref 210), some (.int (nI j)), some (.int (nI r))] [] s
  refine r_aload_n dX9_refuse_0 rfl rfl ?_
  refine n_const 3 dX9_refuse_1 (by decide) ?_
  refine s_V1V mX4_begin dX9_refuse_2 okX4_begin lX9_101 npX4_begin lysX4 rfl (by decide) (by decide) (by decide) (Nat.le_of_ble_eq_true rfl) (Nat.le_of_ble_eq_true rfl) c_begin (fun s1 hq => ?_)
  obtain ⟨g1, g2, hf1⟩ := hq
  refine r_aload_n dX9_refuse_5 rfl rfl ?_
  refine n_bip 100 dX9_refuse_6 (by decide) ?_
  refine r_iload_n dX9_refuse_8 rfl rfl ?_
  refine n_add dX9_refuse_9 ?_
  refine s_V1V mX4_because dX9_refuse_10 okX4_because lX9_71 npX4_because lysX4 rfl (by decide) (by decide) (by decide) (Nat.le_of_ble_eq_true rfl) (Nat.le_of_ble_eq_true rfl) (c_because g2 (by omega)) (fun s1 hq => ?_)
  obtain ⟨g3, g4, hf2⟩ := hq
  refine r_aload_n dX9_refuse_13 rfl rfl ?_
  refine r_iload_n dX9_refuse_14 rfl rfl ?_
  refine s_V1V mX4_because dX9_refuse_15 okX4_because lX9_71 npX4_because lysX4 rfl (by decide) (by decide) (by decide) (Nat.le_of_ble_eq_true rfl) (Nat.le_of_ble_eq_true rfl) (c_because g4 (by omega)) (fun s1 hq => ?_)
  obtain ⟨g5, g6, hf3⟩ := hq
  refine s_vret dX9_refuse_18 rfl ?_
  exact ⟨rfl, ⟨by rw [g5, pk_un (by decide), g3, pk_un (by decide)]; exact g1, by rw [g5, pk_un (by decide), g3, pk_us], by rw [g5, pk_us]⟩, g6, s_fr_tr hf1 (s_fr_tr hf2 hf3)⟩
theorem n_i3 (a : Nat) : nI a + Int32.ofInt 3 = nI (a + 3) := by
  rw [show nI (a + 3) = nI (a + 1 + 1 + 1) from rfl, ← n_i1, ← n_i1, ← n_i1, Int32.add_assoc, Int32.add_assoc]
  rfl
set_option maxRecDepth 20000 in
set_option maxHeartbeats 1000000 in
theorem c_createJobs {G : q_G} {s : s_T} {t : Nat → Nat} {n J : Nat} {X : x_T} (hC0 : c_R X s 83) (hg : x_gd X) (hM : s 206 2 = nI (3 * J)) (hJ : 3 * J ≤ 80) (hA : ∀ i, i < 3 * J → s 208 i = nI (w_va t n i) ∧ s 209 i = nI (w_ki t n i)) : s_W G mX9_createJobs 4 0 0 (c_I (fun y9 s1 => (∀ y, w_ex t n X J = .inl y → y9 = bI true ∧ c_R y.1 s1 83 ∧ s_fr 83 124 s s1) ∧ (∀ w, w_ex t n X J = .inr w → y9 = bI false ∧ (s1 211 0 = nI 3 ∧ s1 211 1 = nI (100 + w.1) ∧ s1 211 2 = nI w.2.1 ∧ (w.2.1 = 3 → s1 211 3 = nI (100 + w.2.2))) ∧ s1 210 0 = nI (if w.2.1 = 3 then 4 else 3) ∧ (∀ k, ¬ (83 ≤ k ∧ k < 124) → k ≠ 210 → k ≠ 211 → s1 k = s k)))) 0 (q_ent mX9_createJobs [.ref 206, .ref 83, .ref 210]) [] s := by
  show s_W G mX9_createJobs 4 0 0 _ 0 [some (.ref 206), some (.ref 83), some (.ref 210), none, none, none, none] [] s
  have ho : isX7 83 := Or.inr (Or.inr rfl)
  have lp : ∀ f j X1 jb st (L6 : Option Value) u1, w_ex t n X j = .inl (X1, jb, st) → c_R X1 u1 83 → s_fr 83 124 s u1 → j ≤ J → J < j + f → s_W G mX9_createJobs 4 0 0 (c_I (fun y9 s1 => (∀ y, w_ex t n X J = .inl y → y9 = bI true ∧ c_R y.1 s1 83 ∧ s_fr 83 124 s s1) ∧ (∀ w, w_ex t n X J = .inr w → y9 = bI false ∧ (s1 211 0 = nI 3 ∧ s1 211 1 = nI (100 + w.1) ∧ s1 211 2 = nI w.2.1 ∧ (w.2.1 = 3 → s1 211 3 = nI (100 + w.2.2))) ∧ s1 210 0 = nI (if w.2.1 = 3 then 4 else 3) ∧ (∀ k, ¬ (83 ≤ k ∧ k < 124) → k ≠ 210 → k ≠ 211 → s1 k = s k)))) 8 [some (.ref 206), some (.ref 83), some (.ref 210), some (.int (a_pi jb)), some (.int (nI st)), some (.int (nI (3 * j))), L6] [] u1 := by
    intro f
    induction f with
    | zero =>
      intro j X1 jb st L6 u1 hex hC hf hj hme
      exact absurd hme (by omega)
    | succ f ih =>
      intro j X1 jb st L6 u1 hex hC hf hj hme
      have hok := w_ex_ok (t := t) (n := n) hg j
      rw [hex] at hok
      have hg1 : x_gd X1 := hok.1
      have h01 : X1 0 = X 0 + jb := hok.2.1
      have hjl : jb ≤ j := hok.2.2.2.1
      have hsl : st ≤ j := hok.2.2.2.2
      have hz1 := x_sz hg1.1
      have hki := w_ki_lt (t := t) (n := n) (i := 3 * j)
      refine r_iload dX9_createJobs_8 rfl ?_
      refine n_const 2 dX9_createJobs_10 (by decide) ?_
      refine n_add dX9_createJobs_11 ?_
      refine r_aload_n dX9_createJobs_12 rfl rfl ?_
      refine s_getI dX9_createJobs_13 fX9_26 lysX9 rfl (show u1 206 2 = nI (3 * J) by rw [hf 206 (by omega)]; exact hM) ?_
      refine n_cge (tgt := 163) dX9_createJobs_16 (by decide) (by omega) (by omega) (fun c16 => ?_) (fun c16 => ?_)
      · refine n_const 1 dX9_createJobs_163 (by decide) ?_
        refine s_iret dX9_createJobs_164 rfl rfl ?_
        have e9 : j = J := by omega
        subst e9
        refine ⟨_, rfl, fun y hy => ?_, fun w hw9 => ?_⟩
        · rw [hex] at hy
          cases hy
          exact ⟨rfl, hC, hf⟩
        · rw [hex] at hw9; cases hw9
      · have hjJ : j < J := by omega
        refine r_aload_n dX9_createJobs_19 rfl rfl ?_
        refine s_getR dX9_createJobs_20 fX9_19 lysX9 rfl ?_
        refine r_iload dX9_createJobs_23 rfl ?_
        refine a_ld dX9_createJobs_25 rfl (by omega) (by decide) (show u1 209 (3 * j) = nI (w_ki t n (3 * j)) by rw [hf 209 (by omega)]; exact (hA _ (by omega)).2) ?_
        refine n_ifne (tgt := 91) dX9_createJobs_26 (by decide) (by omega) (fun c26 => ?_) (fun c26 => ?_)
        · have hj0 : 0 < j := by
            apply Classical.byContradiction
            intro z
            have : j = 0 := by omega
            subst this
            exact absurd c26 (by show ¬ 0 < 0; omega)
          have hjb0 : 0 < jb := hok.2.2.1 hj0
          have hjX : 0 < X1 0 := by omega
          have hjbx := x_jb hg1.1 (show X1 0 - 1 < X1 0 by omega)
          obtain ⟨jb', hjb'⟩ : ∃ jb', jb = jb' + 1 := ⟨jb - 1, by omega⟩
          subst hjb'
          have q9 : w_ex t n X (j + 1) = w_s1 X1 (jb' + 1) st (w_ki t n (3 * j)) (w_va t n (3 * j)) (w_va t n (3 * j + 1)) (w_va t n (3 * j + 2)) := w_ex_l hex
          show s_W G mX9_createJobs 4 0 0 _ 91 [some (.ref 206), some (.ref 83), some (.ref 210), some (.int (nI jb')), some (.int (nI st)), some (.int (nI (3 * j))), L6] [] u1
          refine r_aload_n dX9_createJobs_91 rfl rfl ?_
          refine r_aload_n dX9_createJobs_92 rfl rfl ?_
          refine r_iload dX9_createJobs_93 rfl ?_
          refine s_V2I mX9_operationFits dX9_createJobs_95 okX9_operationFits lX9_67 npX9_operationFits lysX9 rfl (by decide) (by decide) (by decide) (Nat.le_of_ble_eq_true rfl) (Nat.le_of_ble_eq_true rfl) (c_operationFits ho hC hg1.1 hjX (show u1 208 (3 * j) = nI (w_va t n (3 * j)) by rw [hf 208 (by omega)]; exact (hA _ (by omega)).1) (show u1 208 (3 * j + 1) = nI (w_va t n (3 * j + 1)) by rw [hf 208 (by omega)]; exact (hA _ (by omega)).1) (show u1 208 (3 * j + 2) = nI (w_va t n (3 * j + 2)) by rw [hf 208 (by omega)]; exact (hA _ (by omega)).1) w_va_le w_va_le w_va_le (by omega)) (fun x s1 hq => ?_)
          obtain ⟨e9, rfl⟩ := hq
          replace e9 := e9.symm
          subst e9
          refine b_ifne (tgt := 118) dX9_createJobs_98 (by decide) (fun c98 => ?_) (fun c98 => ?_)
          · have hof := c98
            unfold w_of at hof
            rw [Bool.and_eq_true, Bool.and_eq_true, Bool.and_eq_true, decide_eq_true_iff, decide_eq_true_iff, decide_eq_true_iff, Bool.not_eq_true', Bool.or_eq_false_iff, decide_eq_false_iff_not] at hof
            refine r_aload_n dX9_createJobs_118 rfl rfl ?_
            refine r_aload_n dX9_createJobs_119 rfl rfl ?_
            refine s_getI dX9_createJobs_120 fX9_76 (layX7 ho) rfl (cl_jobs hC) ?_
            refine n_const 1 dX9_createJobs_123 (by decide) ?_
            refine n_sub dX9_createJobs_124 (by omega) ?_
            refine r_aload_n dX9_createJobs_125 rfl rfl ?_
            refine s_getR dX9_createJobs_126 fX9_15 lysX9 rfl ?_
            refine r_iload dX9_createJobs_129 rfl ?_
            refine a_ld dX9_createJobs_131 rfl (by omega) (by decide) (by first | exact (show u1 208 (3 * j) = nI (w_va t n (3 * j)) by rw [hf 208 (by omega)]; exact (hA _ (by omega)).1) | exact (show u1 208 (3 * j + 1) = nI (w_va t n (3 * j + 1)) by rw [hf 208 (by omega)]; exact (hA _ (by omega)).1) | exact (show u1 208 (3 * j + 2) = nI (w_va t n (3 * j + 2)) by rw [hf 208 (by omega)]; exact (hA _ (by omega)).1)) ?_
            refine r_aload_n dX9_createJobs_132 rfl rfl ?_
            refine s_getR dX9_createJobs_133 fX9_15 lysX9 rfl ?_
            refine r_iload dX9_createJobs_136 rfl ?_
            refine n_const 1 dX9_createJobs_138 (by decide) ?_
            refine n_add dX9_createJobs_139 ?_
            refine a_ld dX9_createJobs_140 rfl (by omega) (by decide) (by first | exact (show u1 208 (3 * j) = nI (w_va t n (3 * j)) by rw [hf 208 (by omega)]; exact (hA _ (by omega)).1) | exact (show u1 208 (3 * j + 1) = nI (w_va t n (3 * j + 1)) by rw [hf 208 (by omega)]; exact (hA _ (by omega)).1) | exact (show u1 208 (3 * j + 2) = nI (w_va t n (3 * j + 2)) by rw [hf 208 (by omega)]; exact (hA _ (by omega)).1)) ?_
            refine r_aload_n dX9_createJobs_141 rfl rfl ?_
            refine s_getR dX9_createJobs_142 fX9_15 lysX9 rfl ?_
            refine r_iload dX9_createJobs_145 rfl ?_
            refine n_const 2 dX9_createJobs_147 (by decide) ?_
            refine n_add dX9_createJobs_148 ?_
            refine a_ld dX9_createJobs_149 rfl (by omega) (by decide) (by first | exact (show u1 208 (3 * j) = nI (w_va t n (3 * j)) by rw [hf 208 (by omega)]; exact (hA _ (by omega)).1) | exact (show u1 208 (3 * j + 1) = nI (w_va t n (3 * j + 1)) by rw [hf 208 (by omega)]; exact (hA _ (by omega)).1) | exact (show u1 208 (3 * j + 2) = nI (w_va t n (3 * j + 2)) by rw [hf 208 (by omega)]; exact (hA _ (by omega)).1)) ?_
            refine s_V4I mX7_createOperation dX9_createJobs_150 okX7_createOperation lX9_79 npX7_createOperation (layX7 ho) rfl (by decide) (by decide) (by decide) (Nat.le_of_ble_eq_true rfl) (Nat.le_of_ble_eq_true rfl) (c_cCreateOperation ho hC hg1.1 (by omega) hof.1.1 (x_room hg1.1 (by omega) hof.1.1 (by omega) hof.2.2).1 (by omega) (x_room hg1.1 (by omega) hof.1.1 (by omega) hof.2.2).2) (fun x s1 hq => ?_)
            obtain ⟨rfl, hC2, hf2⟩ := hq
            refine r_pop dX9_createJobs_153 rfl ?_
            refine n_inc dX9_createJobs_154 rfl (n_i1 _) (by decide) rfl ?_
            refine n_inc dX9_createJobs_157 rfl (n_i3 _) (by decide) rfl ?_
            refine r_goto (tgt := 8) dX9_createJobs_160 (by decide) ?_
            have q7 : w_ex t n X (j + 1) = .inl (x_addOp X1 (X1 0 - 1) (w_va t n (3 * j)) (w_va t n (3 * j + 1)) (w_va t n (3 * j + 2)), jb' + 1, st + 1) := by
              rw [q9]
              show (if _ = 0 then _ else _) = _
              rw [if_neg (by omega), if_pos c98]
            rw [show 3 * j + 3 = 3 * (j + 1) by omega]
            exact ih (j + 1) _ _ _ _ s1 q7 hC2 (s_fr_tr hf hf2) (by omega) (by omega)
          · refine r_aload_n dX9_createJobs_101 rfl rfl ?_
            refine r_iload_n dX9_createJobs_102 rfl rfl ?_
            refine n_const 3 dX9_createJobs_103 (by decide) ?_
            refine s_S3V mX9_refuse dX9_createJobs_104 okX9_refuse lX9_57 npX9_refuse (by decide) (by decide) (by decide) (Nat.le_of_ble_eq_true rfl) (Nat.le_of_ble_eq_true rfl) c_refuse (fun s1 hq => ?_)
            obtain ⟨g1, g2, hf9⟩ := hq
            refine r_aload_n dX9_createJobs_107 rfl rfl ?_
            refine n_bip 100 dX9_createJobs_108 (by decide) ?_
            refine r_iload dX9_createJobs_110 rfl ?_
            refine n_add dX9_createJobs_112 ?_
            refine s_V1V mX4_because dX9_createJobs_113 okX4_because lX9_71 npX4_because lysX4 rfl (by decide) (by decide) (by decide) (Nat.le_of_ble_eq_true rfl) (Nat.le_of_ble_eq_true rfl) (c_because g2 (by omega)) (fun s1 hq => ?_)
            obtain ⟨g5, g6, hf8⟩ := hq
            refine n_const 0 dX9_createJobs_116 (by decide) ?_
            refine s_iret dX9_createJobs_117 rfl rfl ?_
            have q8 : w_ex t n X J = .inr (jb', 3, st) := by
              rw [show J = j + 1 + (J - (j + 1)) by omega]
              refine w_ex_rr _ _ ?_
              rw [q9]
              show (if _ = 0 then _ else _) = _
              rw [if_neg (by omega), if_neg (by rw [c98]; decide)]
              rfl
            refine ⟨_, rfl, fun y hy => ?_, fun w hw9 => ?_⟩
            · rw [q8] at hy; cases hy
            · rw [q8] at hw9
              cases hw9
              refine ⟨rfl, ⟨by rw [g5, pk_un (by decide)]; exact g1.1, by rw [g5, pk_un (by decide)]; exact g1.2.1, by rw [g5, pk_un (by decide)]; exact g1.2.2, fun _ => by rw [g5, pk_us]⟩, g6, fun k e1 e2 e3 => by rw [hf8 k (by omega), hf9 k (by omega)]; exact hf k (by omega)⟩
        · have hk0 := c26
          refine r_iinc dX9_createJobs_29 rfl (a_pi_i _) (by decide) rfl ?_
          refine n_const 0 dX9_createJobs_32 (by decide) ?_
          refine r_istore dX9_createJobs_33 (by decide) rfl ?_
          refine r_aload_n dX9_createJobs_35 rfl rfl ?_
          refine r_aload_n dX9_createJobs_36 rfl rfl ?_
          refine r_iload dX9_createJobs_37 rfl ?_
          refine s_V2I mX9_reasonAgainstJob dX9_createJobs_39 okX9_reasonAgainstJob lX9_53 npX9_reasonAgainstJob lysX9 rfl (by decide) (by decide) (by decide) (Nat.le_of_ble_eq_true rfl) (Nat.le_of_ble_eq_true rfl) (c_reasonAgainstJob ho hC hg1.1 (show u1 208 (3 * j) = nI (w_va t n (3 * j)) by rw [hf 208 (by omega)]; exact (hA _ (by omega)).1) (show u1 208 (3 * j + 1) = nI (w_va t n (3 * j + 1)) by rw [hf 208 (by omega)]; exact (hA _ (by omega)).1) (show u1 208 (3 * j + 2) = nI (w_va t n (3 * j + 2)) by rw [hf 208 (by omega)]; exact (hA _ (by omega)).1) w_va_le w_va_le w_va_le (by omega)) (fun x s1 hq => ?_)
          obtain ⟨e9, rfl⟩ := hq
          replace e9 := e9.symm
          subst e9
          refine r_istore dX9_createJobs_42 (by decide) rfl ?_
          have q9 : w_ex t n X (j + 1) = w_s1 X1 jb st (w_ki t n (3 * j)) (w_va t n (3 * j)) (w_va t n (3 * j + 1)) (w_va t n (3 * j + 2)) := w_ex_l hex
          rw [hk0] at q9
          by_cases h59 : X1 0 = 5
          · rw [if_pos h59]
            refine r_iload dX9_createJobs_44 rfl ?_
            refine n_ifeq (tgt := 58) dX9_createJobs_46 (by decide) (by omega) (fun c46 => ?_) (fun c46 => ?_)
            · exact absurd c46 (by decide)
            · refine r_aload_n dX9_createJobs_49 rfl rfl ?_
              refine r_iload_n dX9_createJobs_50 rfl rfl ?_
              refine r_iload dX9_createJobs_51 rfl ?_
              refine s_S3V mX9_refuse dX9_createJobs_53 okX9_refuse lX9_57 npX9_refuse (by decide) (by decide) (by decide) (Nat.le_of_ble_eq_true rfl) (Nat.le_of_ble_eq_true rfl) c_refuse (fun s1 hq => ?_)
              obtain ⟨g1, g2, hf9⟩ := hq
              refine n_const 0 dX9_createJobs_56 (by decide) ?_
              refine s_iret dX9_createJobs_57 rfl rfl ?_
              have q8 : w_ex t n X J = .inr (jb, 1, 0) := by
                rw [show J = j + 1 + (J - (j + 1)) by omega]
                refine w_ex_rr _ _ ?_
                rw [q9]
                show (if 0 = 0 then _ else _) = _
                rw [if_pos rfl, if_pos h59]
              refine ⟨_, rfl, fun y hy => ?_, fun w hw9 => ?_⟩
              · rw [q8] at hy; cases hy
              · rw [q8] at hw9
                cases hw9
                refine ⟨rfl, ⟨g1.1, g1.2.1, g1.2.2, fun z => absurd z (by show ¬ 1 = 3; decide)⟩, g2, fun k e1 e2 e3 => by rw [hf9 k (by omega)]; exact hf k (by omega)⟩
          · rw [if_neg h59]
            by_cases h58 : w_jf (w_va t n (3 * j)) (w_va t n (3 * j + 1)) (w_va t n (3 * j + 2)) = true
            · rw [if_pos h58]
              unfold w_jf at h58
              have h57 := h58
              rw [Bool.and_eq_true, Bool.and_eq_true, decide_eq_true_iff, decide_eq_true_iff, decide_eq_true_iff] at h57
              replace h58 : w_jf (w_va t n (3 * j)) (w_va t n (3 * j + 1)) (w_va t n (3 * j + 2)) = true := h58
              refine r_iload dX9_createJobs_44 rfl ?_
              refine n_ifeq (tgt := 58) dX9_createJobs_46 (by decide) (by omega) (fun c46 => ?_) (fun c46 => ?_)
              · refine r_aload_n dX9_createJobs_58 rfl rfl ?_
                refine r_aload_n dX9_createJobs_59 rfl rfl ?_
                refine s_getR dX9_createJobs_60 fX9_15 lysX9 rfl ?_
                refine r_iload dX9_createJobs_63 rfl ?_
                refine a_ld dX9_createJobs_65 rfl (by omega) (by decide) (by first | exact (show u1 208 (3 * j) = nI (w_va t n (3 * j)) by rw [hf 208 (by omega)]; exact (hA _ (by omega)).1) | exact (show u1 208 (3 * j + 1) = nI (w_va t n (3 * j + 1)) by rw [hf 208 (by omega)]; exact (hA _ (by omega)).1) | exact (show u1 208 (3 * j + 2) = nI (w_va t n (3 * j + 2)) by rw [hf 208 (by omega)]; exact (hA _ (by omega)).1)) ?_
                refine r_aload_n dX9_createJobs_66 rfl rfl ?_
                refine s_getR dX9_createJobs_67 fX9_15 lysX9 rfl ?_
                refine r_iload dX9_createJobs_70 rfl ?_
                refine n_const 1 dX9_createJobs_72 (by decide) ?_
                refine n_add dX9_createJobs_73 ?_
                refine a_ld dX9_createJobs_74 rfl (by omega) (by decide) (by first | exact (show u1 208 (3 * j) = nI (w_va t n (3 * j)) by rw [hf 208 (by omega)]; exact (hA _ (by omega)).1) | exact (show u1 208 (3 * j + 1) = nI (w_va t n (3 * j + 1)) by rw [hf 208 (by omega)]; exact (hA _ (by omega)).1) | exact (show u1 208 (3 * j + 2) = nI (w_va t n (3 * j + 2)) by rw [hf 208 (by omega)]; exact (hA _ (by omega)).1)) ?_
                refine r_aload_n dX9_createJobs_75 rfl rfl ?_
                refine s_getR dX9_createJobs_76 fX9_15 lysX9 rfl ?_
                refine r_iload dX9_createJobs_79 rfl ?_
                refine n_const 2 dX9_createJobs_81 (by decide) ?_
                refine n_add dX9_createJobs_82 ?_
                refine a_ld dX9_createJobs_83 rfl (by omega) (by decide) (by first | exact (show u1 208 (3 * j) = nI (w_va t n (3 * j)) by rw [hf 208 (by omega)]; exact (hA _ (by omega)).1) | exact (show u1 208 (3 * j + 1) = nI (w_va t n (3 * j + 1)) by rw [hf 208 (by omega)]; exact (hA _ (by omega)).1) | exact (show u1 208 (3 * j + 2) = nI (w_va t n (3 * j + 2)) by rw [hf 208 (by omega)]; exact (hA _ (by omega)).1)) ?_
                refine s_V3I mX7_createJob dX9_createJobs_84 okX7_createJob lX9_61 npX7_createJob (layX7 ho) rfl (by decide) (by decide) (by decide) (Nat.le_of_ble_eq_true rfl) (Nat.le_of_ble_eq_true rfl) (c_cCreateJob ho hC hg1.1 (by omega)) (fun x s1 hq => ?_)
                obtain ⟨rfl, hC2, hf2⟩ := hq
                refine r_pop dX9_createJobs_87 rfl ?_
                refine r_goto (tgt := 157) dX9_createJobs_88 (by decide) ?_
                refine n_inc dX9_createJobs_157 rfl (n_i3 _) (by decide) rfl ?_
                refine r_goto (tgt := 8) dX9_createJobs_160 (by decide) ?_
                have q7 : w_ex t n X (j + 1) = .inl (x_addJob X1 (w_va t n (3 * j)) (w_va t n (3 * j + 1)) (w_va t n (3 * j + 2)), jb + 1, 0) := by
                  rw [q9]
                  show (if 0 = 0 then _ else _) = _
                  rw [if_pos rfl, if_neg h59, if_pos h58]
                rw [show 3 * j + 3 = 3 * (j + 1) by omega]
                exact ih (j + 1) _ _ _ _ s1 q7 hC2 (s_fr_tr hf hf2) (by omega) (by omega)
              · exact absurd c46 (by decide)
            · rw [if_neg h58]
              refine r_iload dX9_createJobs_44 rfl ?_
              refine n_ifeq (tgt := 58) dX9_createJobs_46 (by decide) (by omega) (fun c46 => ?_) (fun c46 => ?_)
              · exact absurd c46 (by decide)
              · refine r_aload_n dX9_createJobs_49 rfl rfl ?_
                refine r_iload_n dX9_createJobs_50 rfl rfl ?_
                refine r_iload dX9_createJobs_51 rfl ?_
                refine s_S3V mX9_refuse dX9_createJobs_53 okX9_refuse lX9_57 npX9_refuse (by decide) (by decide) (by decide) (Nat.le_of_ble_eq_true rfl) (Nat.le_of_ble_eq_true rfl) c_refuse (fun s1 hq => ?_)
                obtain ⟨g1, g2, hf9⟩ := hq
                refine n_const 0 dX9_createJobs_56 (by decide) ?_
                refine s_iret dX9_createJobs_57 rfl rfl ?_
                have q8 : w_ex t n X J = .inr (jb, 2, 0) := by
                  rw [show J = j + 1 + (J - (j + 1)) by omega]
                  refine w_ex_rr _ _ ?_
                  rw [q9]
                  show (if 0 = 0 then _ else _) = _
                  rw [if_pos rfl, if_neg h59, if_neg h58]
                refine ⟨_, rfl, fun y hy => ?_, fun w hw9 => ?_⟩
                · rw [q8] at hy; cases hy
                · rw [q8] at hw9
                  cases hw9
                  refine ⟨rfl, ⟨g1.1, g1.2.1, g1.2.2, fun z => absurd z (by show ¬ 2 = 3; decide)⟩, g2, fun k e1 e2 e3 => by rw [hf9 k (by omega)]; exact hf k (by omega)⟩
  refine r_iconst (v := -1) dX9_createJobs_0 (by decide) ?_
  refine r_istore_n dX9_createJobs_1 rfl (by decide) rfl ?_
  refine n_const 0 dX9_createJobs_2 (by decide) ?_
  refine r_istore dX9_createJobs_3 (by decide) rfl ?_
  refine n_const 0 dX9_createJobs_5 (by decide) ?_
  refine r_istore dX9_createJobs_6 (by decide) rfl ?_
  exact lp (J + 1) 0 X 0 0 _ s rfl hC0 s_fr_rf (by omega) (by omega)
theorem c_Z_fa {z : z_T} {m : Nat} {g : Nat → Nat} {s s1 : s_T} (h : c_Z z s) (hz : z_wf z) (hf : ∀ k, ¬ (83 ≤ k ∧ k < 124) → ¬ (206 ≤ k ∧ k < 212) → s1 k = s k) (h206 : s1 206 0 = nI 0) (h210 : s1 210 0 = nI m) (h211 : ∀ k, k < m → s1 211 k = nI (g k)) : c_Z (z_fa z m g) s1 := by
  obtain ⟨a1, a2, a3, a4, a5, a6, a7, a8, a9, a10, a11, a12⟩ := h
  refine ⟨c_R_cg a1 (fun k h1 h2 => hf k (by omega) (by omega)) (x_sz hz.1.1).1, fun q => c_R_cg (a2 q) (fun k h1 h2 => hf k (by omega) (by omega)) (hz.2.1 q).1.1, ?_, fun h hh => ?_, ?_, h206, fun k hk => absurd hk (by show ¬ k < 0; omega), h210, h211, ?_, ?_, ?_⟩
  · rw [hf 0 (by omega) (by omega)]; exact a3
  · rw [hf (h + 5) (by omega) (by omega), hf h (by omega) (by omega)]; exact a4 h hh
  · rw [hf 152 (by omega) (by omega)]; exact a5
  · rw [hf 150 (by omega) (by omega)]; exact a10
  · rw [hf 151 (by omega) (by omega)]; exact a11
  · rw [hf 161 (by omega) (by omega)]; exact a12
theorem c_Z_rd {z : z_T} {X : x_T} {s s1 : s_T} (h : c_Z z s) (hz : z_wf z) (hX : c_R X s1 1) (hf : ∀ k, ¬ (1 ≤ k ∧ k < 42) → ¬ (83 ≤ k ∧ k < 124) → ¬ (206 ≤ k ∧ k < 210) → s1 k = s k) (h206 : s1 206 0 = nI 0) : c_Z (va_up (z_rd z) 0 X) s1 := by
  obtain ⟨a1, a2, a3, a4, a5, a6, a7, a8, a9, a10, a11, a12⟩ := h
  refine ⟨hX, fun q => c_R_cg (a2 q) (fun k h1 h2 => hf k (by omega) (by omega) (by omega)) (hz.2.1 q).1.1, ?_, fun h hh => ?_, ?_, h206, fun k hk => absurd hk (by show ¬ k < 0; omega), ?_, ?_, ?_, ?_, ?_⟩
  · rw [hf 0 (by omega) (by omega) (by omega)]; exact a3
  · rw [hf (h + 5) (by omega) (by omega) (by omega), hf h (by omega) (by omega) (by omega)]; exact a4 h hh
  · rw [hf 152 (by omega) (by omega) (by omega)]; exact a5
  · rw [hf 210 (by omega) (by omega) (by omega)]; exact a8
  · rw [hf 211 (by omega) (by omega) (by omega)]; exact a9
  · rw [hf 150 (by omega) (by omega) (by omega)]; exact a10
  · rw [hf 151 (by omega) (by omega) (by omega)]; exact a11
  · rw [hf 161 (by omega) (by omega) (by omega)]; exact a12
theorem w_fl_le {t : Nat → Nat} {n : Nat} : ∀ f k p, p ≤ n → ∀ q, w_fl t n f k p = some q → q ≤ n
  | 0, k, p, hp, q, h => by cases h; exact hp
  | f + 1, k, p, hp, q, h => by
    have hc := w_c_le (t := t) (k := k) hp
    by_cases e : w_c t n k p = 0
    · rw [w_fl_0 e] at h; cases h; exact hp
    · by_cases e2 : p + w_c t n k p < n
      · cases hn : w_nx k (t (p + w_c t n k p)) with
        | none => rw [w_fl_b e e2 hn] at h; cases h; exact hc
        | some k' => rw [w_fl_s e e2 hn] at h; exact w_fl_le f k' _ (by omega) q h
      · by_cases e3 : k = 5
        · rw [w_fl_n e e2 e3] at h; cases h
        · rw [w_fl_e e e2 e3] at h; cases h; exact hc
set_option maxRecDepth 20000 in
set_option maxHeartbeats 1000000 in
theorem c_read {G : q_G} {s : s_T} {z : z_T} (hz : z_wf z) (hZ : c_Z z s) : s_W G mX11_read 8 2 12 (c_P [q_IA, q_IS] (A_read z) s) 0 (q_ent mX11_read [.ref 0]) [] s := by
  show s_W G mX11_read 8 2 12 _ 0 [some (.ref 0), none, none] [] s
  have hw := hz.1.1
  have hs := x_sz hw
  have hC := hZ.1
  have hf : s_fr 0 212 s s := s_fr_rf
  have ho : isX7 1 := Or.inl rfl
  have hwk := w_ex_ok (t := z 3) (n := z 2 1) (z_gd hz) (w_M (z 3) (z 2 1) / 3)
  have hft := w_fl_le (t := z 3) (n := z 2 1) 81 0 0 (by omega)
  have h80 := hz.2.2.2.1.1
  cases hfl : w_fl (z 3) (z 2 1) 81 0 0 with
  | some q =>
    have hq80 := hft q hfl
    refine r_aload_n dX11_read_0 rfl rfl ?_
    refine s_getR dX11_read_1 fX11_77 lysX11 rfl ?_
    refine s_V0I mX9_findFault dX11_read_4 okX9_findFault lX11_358 npX9_findFault lysX9 rfl (by decide) (by decide) (by decide) (Nat.le_of_ble_eq_true rfl) (Nat.le_of_ble_eq_true rfl) (c_findFault (t := z 3) (n := z 2 1) hZ.2.2.2.2.2.1 hz.2.2.2.1.1 hZ.2.2.2.2.2.2.1 hz.2.2.2.1.2) (fun x s1 hq => ?_)
    obtain ⟨e9, hm9, h0, h207, hf1⟩ := hq
    rw [hfl] at e9
    have e9 : x = nI q := e9
    subst e9
    refine r_istore_n dX11_read_7 rfl (by decide) rfl ?_
    refine r_aload_n dX11_read_8 rfl rfl ?_
    refine s_getR dX11_read_9 fX11_77 lysX11 rfl ?_
    refine n_const 0 dX11_read_12 (by decide) ?_
    refine a_put dX11_read_13 gX11_349 lysX9 rfl rfl rfl (fun s2 hs2 hf2 => ?_)
    refine r_iload_n dX11_read_16 rfl rfl ?_
    refine r_iconst (v := -1) dX11_read_17 (by decide) ?_
    refine r_icmp_eq (tgt := 51) dX11_read_18 (by decide) (fun c18 => ?_) (fun c18 => ?_)
    · exact absurd c18 (nI_m1 (by omega))
    · refine r_aload_n dX11_read_21 rfl rfl ?_
      refine s_getR dX11_read_22 fX11_84 lysX11 rfl ?_
      refine n_const 2 dX11_read_25 (by decide) ?_
      refine s_V1V mX4_begin dX11_read_26 okX4_begin lX11_361 npX4_begin lysX4 rfl (by decide) (by decide) (by decide) (Nat.le_of_ble_eq_true rfl) (Nat.le_of_ble_eq_true rfl) c_begin (fun s1 hq => ?_)
      obtain ⟨g1, g2, hf3⟩ := hq
      refine r_aload_n dX11_read_29 rfl rfl ?_
      refine s_getR dX11_read_30 fX11_84 lysX11 rfl ?_
      refine n_bip 100 dX11_read_33 (by decide) ?_
      refine r_iload_n dX11_read_35 rfl rfl ?_
      refine n_add dX11_read_36 ?_
      refine s_V1V mX4_because dX11_read_37 okX4_because lX11_364 npX4_because lysX4 rfl (by decide) (by decide) (by decide) (Nat.le_of_ble_eq_true rfl) (Nat.le_of_ble_eq_true rfl) (c_because g2 (by omega)) (fun s1 hq => ?_)
      obtain ⟨g3, g4, hf4⟩ := hq
      refine s_throwSW dX11_read_40 dX11_read_43 dX11_read_44 dX11_read_47 dX11_read_50 thrX11_367_96 rfl (by decide) (by decide) (by decide) (Nat.le_of_ble_eq_true rfl) ?_
      refine c_P_e (z := z_fa z 2 (w_f2 (z 4) q)) 1 (A_read_f hfl) (by decide) rfl (c_Z_fa hZ hz (fun k e1 e2 => by rw [hf4 k (by omega), hf3 k (by omega), hf2 k (by omega), hf1 k (by omega)]) ?_ g4 (fun k hk => ?_)) (fun k hk => by rw [hf4 k (by omega), hf3 k (by omega), hf2 k (by omega), hf1 k (by omega)])
      · rw [hf4 206 (by omega), hf3 206 (by omega), hs2, pk_us]
      · rw [g3]
        rcases (show k = 0 ∨ k = 1 by omega) with rfl | rfl
        · rw [pk_un (by decide), g1]; rfl
        · rw [pk_us]; rfl
  | none =>
    cases hex : w_ex (z 3) (z 2 1) (z 0) (w_M (z 3) (z 2 1) / 3) with
    | inl y =>
      rw [hex] at hwk
      have hy : x_gd y.1 := hwk.1
      have hy0 : y.1 0 = z 0 0 + y.2.1 := hwk.2.1
      have hy5 := x_sz hy.1
      refine r_aload_n dX11_read_0 rfl rfl ?_
      refine s_getR dX11_read_1 fX11_77 lysX11 rfl ?_
      refine s_V0I mX9_findFault dX11_read_4 okX9_findFault lX11_358 npX9_findFault lysX9 rfl (by decide) (by decide) (by decide) (Nat.le_of_ble_eq_true rfl) (Nat.le_of_ble_eq_true rfl) (c_findFault (t := z 3) (n := z 2 1) hZ.2.2.2.2.2.1 hz.2.2.2.1.1 hZ.2.2.2.2.2.2.1 hz.2.2.2.1.2) (fun x s1 hq => ?_)
      obtain ⟨e9, hm9, h0, h207, hf1⟩ := hq
      rw [hfl] at e9
      have e9 : x = -1 := e9
      subst e9
      refine r_istore_n dX11_read_7 rfl (by decide) rfl ?_
      refine r_aload_n dX11_read_8 rfl rfl ?_
      refine s_getR dX11_read_9 fX11_77 lysX11 rfl ?_
      refine n_const 0 dX11_read_12 (by decide) ?_
      refine a_put dX11_read_13 gX11_349 lysX9 rfl rfl rfl (fun s2 hs2 hf2 => ?_)
      refine r_iload_n dX11_read_16 rfl rfl ?_
      refine r_iconst (v := -1) dX11_read_17 (by decide) ?_
      refine r_icmp_eq (tgt := 51) dX11_read_18 (by decide) (fun c18 => ?_) (fun c18 => ?_)
      · refine r_aload_n dX11_read_51 rfl rfl ?_
        refine s_getR dX11_read_52 fX11_19 lysX11 rfl ?_
        refine r_aload_n dX11_read_55 rfl rfl ?_
        refine s_getR dX11_read_56 fX11_10 lysX11 rfl ?_
        refine s_V1V mX7_copyFrom dX11_read_59 okX7_copyFrom lX11_369 npX7_copyFrom (layX7 isX7_83) rfl (by decide) (by decide) (by decide) (Nat.le_of_ble_eq_true rfl) (Nat.le_of_ble_eq_true rfl) (c_shopCopy (o0 := 83) (o1 := 1) (Or.inr (Or.inr rfl)) ho (by omega) (c_R_fr (c_R_fr hC hf1 (Or.inl (by omega)) hs.1) hf2 (Or.inl (by omega)) hs.1) hw) (fun s1 hq => ?_)
        obtain ⟨hCd, hf3⟩ := hq
        obtain ⟨m1, m2, m3, m4⟩ := hm9 hfl
        have hM3 : w_M (z 3) (z 2 1) = 3 * (w_M (z 3) (z 2 1) / 3) := by omega
        refine r_aload_n dX11_read_62 rfl rfl ?_
        refine s_getR dX11_read_63 fX11_77 lysX11 rfl ?_
        refine r_aload_n dX11_read_66 rfl rfl ?_
        refine s_getR dX11_read_67 fX11_19 lysX11 rfl ?_
        refine r_aload_n dX11_read_70 rfl rfl ?_
        refine s_getR dX11_read_71 fX11_84 lysX11 rfl ?_
        refine s_V2I mX9_createJobs dX11_read_74 okX9_createJobs lX11_373 npX9_createJobs lysX9 rfl (by decide) (by decide) (by decide) (Nat.le_of_ble_eq_true rfl) (Nat.le_of_ble_eq_true rfl) (c_createJobs (t := z 3) (n := z 2 1) (J := (w_M (z 3) (z 2 1) / 3)) hCd (z_gd hz) (by rw [hf3 206 (by omega), hs2, pk_un (by decide), m1, ← hM3]) (by omega) (fun i hi => by rw [hf3 208 (by omega), hf3 209 (by omega), hf2 208 (by omega), hf2 209 (by omega)]; exact m4 i (by omega))) (fun x s1 hq => ?_)
        obtain ⟨p1, p2, hf4⟩ := hq.1 _ hex
        subst p1
        refine b_ifne (tgt := 91) dX11_read_77 (by decide) (fun c77 => ?_) (fun c77 => ?_)
        · refine r_aload_n dX11_read_91 rfl rfl ?_
          refine s_getR dX11_read_92 fX11_19 lysX11 rfl ?_
          refine s_getI dX11_read_95 fX11_99 (layX7 isX7_83) rfl (cl_jobs p2) ?_
          refine r_aload_n dX11_read_98 rfl rfl ?_
          refine s_getR dX11_read_99 fX11_10 lysX11 rfl ?_
          refine s_getI dX11_read_102 fX11_99 (layX7 isX7_1) rfl (show s1 1 0 = nI (z 0 0) by rw [hf4 1 (by omega), hf3 1 (by omega), hf2 1 (by omega), hf1 1 (by omega)]; exact cl_jobs hC) ?_
          refine n_sub dX11_read_105 (by omega) ?_
          refine r_istore_n dX11_read_106 rfl (by decide) rfl ?_
          refine r_aload_n dX11_read_107 rfl rfl ?_
          refine s_getR dX11_read_108 fX11_10 lysX11 rfl ?_
          refine r_aload_n dX11_read_111 rfl rfl ?_
          refine s_getR dX11_read_112 fX11_19 lysX11 rfl ?_
          refine s_V1V mX7_copyFrom dX11_read_115 okX7_copyFrom lX11_369 npX7_copyFrom (layX7 isX7_1) rfl (by decide) (by decide) (by decide) (Nat.le_of_ble_eq_true rfl) (Nat.le_of_ble_eq_true rfl) (c_shopCopy (o0 := 1) (o1 := 83) ho (Or.inr (Or.inr rfl)) (by omega) p2 hy.1) (fun s1 hq => ?_)
          obtain ⟨hCn, hf5⟩ := hq
          refine r_iload_n dX11_read_118 rfl rfl ?_
          refine s_iret dX11_read_119 rfl rfl ?_
          rw [show y.1 0 - z 0 0 = y.2.1 by omega]
          exact c_P_s (z := va_up (z_rd z) 0 y.1) (A_read_l hfl hex) (c_Z_rd hZ hz hCn (fun k e1 e2 e3 => by rw [hf5 k (by omega), hf4 k (by omega), hf3 k (by omega), hf2 k (by omega), hf1 k (by omega)]) (by rw [hf5 206 (by omega), hf4 206 (by omega), hf3 206 (by omega), hs2, pk_us])) (fun k hk => by rw [hf5 k (by omega), hf4 k (by omega), hf3 k (by omega), hf2 k (by omega), hf1 k (by omega)])
        · exact absurd c77 (by decide)
      · exact absurd rfl c18
    | inr w =>
      refine r_aload_n dX11_read_0 rfl rfl ?_
      refine s_getR dX11_read_1 fX11_77 lysX11 rfl ?_
      refine s_V0I mX9_findFault dX11_read_4 okX9_findFault lX11_358 npX9_findFault lysX9 rfl (by decide) (by decide) (by decide) (Nat.le_of_ble_eq_true rfl) (Nat.le_of_ble_eq_true rfl) (c_findFault (t := z 3) (n := z 2 1) hZ.2.2.2.2.2.1 hz.2.2.2.1.1 hZ.2.2.2.2.2.2.1 hz.2.2.2.1.2) (fun x s1 hq => ?_)
      obtain ⟨e9, hm9, h0, h207, hf1⟩ := hq
      rw [hfl] at e9
      have e9 : x = -1 := e9
      subst e9
      refine r_istore_n dX11_read_7 rfl (by decide) rfl ?_
      refine r_aload_n dX11_read_8 rfl rfl ?_
      refine s_getR dX11_read_9 fX11_77 lysX11 rfl ?_
      refine n_const 0 dX11_read_12 (by decide) ?_
      refine a_put dX11_read_13 gX11_349 lysX9 rfl rfl rfl (fun s2 hs2 hf2 => ?_)
      refine r_iload_n dX11_read_16 rfl rfl ?_
      refine r_iconst (v := -1) dX11_read_17 (by decide) ?_
      refine r_icmp_eq (tgt := 51) dX11_read_18 (by decide) (fun c18 => ?_) (fun c18 => ?_)
      · refine r_aload_n dX11_read_51 rfl rfl ?_
        refine s_getR dX11_read_52 fX11_19 lysX11 rfl ?_
        refine r_aload_n dX11_read_55 rfl rfl ?_
        refine s_getR dX11_read_56 fX11_10 lysX11 rfl ?_
        refine s_V1V mX7_copyFrom dX11_read_59 okX7_copyFrom lX11_369 npX7_copyFrom (layX7 isX7_83) rfl (by decide) (by decide) (by decide) (Nat.le_of_ble_eq_true rfl) (Nat.le_of_ble_eq_true rfl) (c_shopCopy (o0 := 83) (o1 := 1) (Or.inr (Or.inr rfl)) ho (by omega) (c_R_fr (c_R_fr hC hf1 (Or.inl (by omega)) hs.1) hf2 (Or.inl (by omega)) hs.1) hw) (fun s1 hq => ?_)
        obtain ⟨hCd, hf3⟩ := hq
        obtain ⟨m1, m2, m3, m4⟩ := hm9 hfl
        have hM3 : w_M (z 3) (z 2 1) = 3 * (w_M (z 3) (z 2 1) / 3) := by omega
        refine r_aload_n dX11_read_62 rfl rfl ?_
        refine s_getR dX11_read_63 fX11_77 lysX11 rfl ?_
        refine r_aload_n dX11_read_66 rfl rfl ?_
        refine s_getR dX11_read_67 fX11_19 lysX11 rfl ?_
        refine r_aload_n dX11_read_70 rfl rfl ?_
        refine s_getR dX11_read_71 fX11_84 lysX11 rfl ?_
        refine s_V2I mX9_createJobs dX11_read_74 okX9_createJobs lX11_373 npX9_createJobs lysX9 rfl (by decide) (by decide) (by decide) (Nat.le_of_ble_eq_true rfl) (Nat.le_of_ble_eq_true rfl) (c_createJobs (t := z 3) (n := z 2 1) (J := (w_M (z 3) (z 2 1) / 3)) hCd (z_gd hz) (by rw [hf3 206 (by omega), hs2, pk_un (by decide), m1, ← hM3]) (by omega) (fun i hi => by rw [hf3 208 (by omega), hf3 209 (by omega), hf2 208 (by omega), hf2 209 (by omega)]; exact m4 i (by omega))) (fun x s1 hq => ?_)
        obtain ⟨p1, p2, p3, hf4⟩ := hq.2 _ hex
        subst p1
        refine b_ifne (tgt := 91) dX11_read_77 (by decide) (fun c77 => ?_) (fun c77 => ?_)
        · exact absurd c77 (by decide)
        · refine s_throwSW dX11_read_80 dX11_read_83 dX11_read_84 dX11_read_87 dX11_read_90 thrX11_377_107 rfl (by decide) (by decide) (by decide) (Nat.le_of_ble_eq_true rfl) ?_
          refine c_P_e (z := z_fa z (if w.2.1 = 3 then 4 else 3) (w_f3 (z 4) w)) 2 (A_read_r hfl hex) (by decide) rfl (c_Z_fa hZ hz (fun k e1 e2 => by rw [hf4 k (by omega) (by omega) (by omega), hf3 k (by omega), hf2 k (by omega), hf1 k (by omega)]) ?_ p3 (fun k hk => ?_)) (fun k hk => by rw [hf4 k (by omega) (by omega) (by omega), hf3 k (by omega), hf2 k (by omega), hf1 k (by omega)])
          · rw [hf4 206 (by omega) (by omega) (by omega), hf3 206 (by omega), hs2, pk_us]
          · have hk4 : k < 4 := by split at hk <;> omega
            rcases (show k = 0 ∨ k = 1 ∨ k = 2 ∨ k = 3 by omega) with rfl | rfl | rfl | rfl
            · rw [p2.1]; rfl
            · rw [p2.2.1]; rfl
            · rw [p2.2.2.1]; rfl
            · rw [p2.2.2.2 (by split at hk <;> omega)]; rfl
      · exact absurd rfl c18
end
