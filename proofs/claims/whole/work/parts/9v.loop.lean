/-! ===== the law's loop ===== -/
theorem j_gt {a b : Nat} (ha : a < 2 ^ 31) (hb : b < 2 ^ 31) : ((nI a - nI 5 : Int32) < nI b) ↔ a < b + 5 := by
  rw [Int32.lt_iff_toInt_lt, nI_sub ha (by decide), nI_toInt hb]
  omega
set_option maxRecDepth 20000 in
set_option maxHeartbeats 1000000 in
theorem lw_loop {G : q_G} {P : q_R → s_T → Prop} (hP : ∀ s, P (.inl (some (.int (nI 1)))) s) (hG : G.2.2.1 ≤ 2560) : ∀ (f i : Nat) (z : z_T) (s : s_T), j_I z s → i ≤ 2560 → G.2.2.1 < i + 5 * f + 5 → s_W G mL_law 20 (3 * f) (18 * f) P 28 [some (.ref 1000000), some (.ref 0), some (.ref 212), some (.ref 234), some (.ref 235), some (.int (nI i)), none, none, none] [] s := by
  intro f
  induction f with
  | zero =>
    intro i z s hI hi hme
    refine r_iload dL_law_28 rfl ?_
    refine r_aload_n dL_law_30 rfl rfl ?_
    refine r_slen dL_law_31 rfl ?_
    refine n_const 5 dL_law_32 (by decide) ?_
    refine r_isub dL_law_33 ?_
    refine r_icmp_gt (tgt := 2170) dL_law_34 (by decide) (fun c => ?_) (fun c => absurd ((j_gt (by omega) (by omega)).mpr (by omega)) c)
    refine n_const 1 dL_law_2170 (by decide) ?_
    exact s_iret dL_law_2171 rfl rfl (hP s)
  | succ f ih =>
    intro i z s hI hi hme
    refine r_iload dL_law_28 rfl ?_
    refine r_aload_n dL_law_30 rfl rfl ?_
    refine r_slen dL_law_31 rfl ?_
    refine n_const 5 dL_law_32 (by decide) ?_
    refine r_isub dL_law_33 ?_
    refine r_icmp_gt (tgt := 2170) dL_law_34 (by decide) (fun c => ?_) (fun c => ?_)
    · refine n_const 1 dL_law_2170 (by decide) ?_
      exact s_iret dL_law_2171 rfl rfl (hP s)
    have h5 : i + 5 ≤ G.2.2.1 := Nat.not_lt.mp (fun q => c ((j_gt (by omega) (by omega)).mpr q))
    have K : ∀ z1 s1, j_I z1 s1 → s_W G mL_law 20 (3 * f) (18 * f) P 2164 [some (.ref 1000000), some (.ref 0), some (.ref 212), some (.ref 234), some (.ref 235), some (.int (nI i)), none, none, none] [] s1 := by
      intro z1 s1 hI1
      refine n_inc (b := i + 5) dL_law_2164 rfl (by rw [show (Int32.ofInt 5) = nI 5 by decide, nI_add]) (by decide) rfl ?_
      refine r_goto (tgt := 28) dL_law_2167 (by decide) ?_
      exact ih (i + 5) z1 s1 hI1 (by omega) (by omega)
    refine r_aload_n dL_law_37 rfl rfl ?_
    refine r_iload dL_law_38 rfl ?_
    refine r_sld dL_law_40 (n_bd (by omega) (by omega)) ?_
    refine n_bip 63 dL_law_41 (by decide) ?_
    refine r_iand dL_law_43 ?_
    generalize G.2.2.2 (nI i).toNatClampNeg &&& nI 63 = x
    by_cases cs : iIn x 0 36 = true
    · obtain ⟨n, rfl, -, hn, hn2⟩ := iIn_n cs
      rcases (show n = 0 ∨ n = 1 ∨ n = 2 ∨ n = 3 ∨ n = 4 ∨ n = 5 ∨ n = 6 ∨ n = 7 ∨ n = 8 ∨ n = 9 ∨ n = 10 ∨ n = 11 ∨ n = 12 ∨ n = 13 ∨ n = 14 ∨ n = 15 ∨ n = 16 ∨ n = 17 ∨ n = 18 ∨ n = 19 ∨ n = 20 ∨ n = 21 ∨ n = 22 ∨ n = 23 ∨ n = 24 ∨ n = 25 ∨ n = 26 ∨ n = 27 ∨ n = 28 ∨ n = 29 ∨ n = 30 ∨ n = 31 ∨ n = 32 ∨ n = 33 ∨ n = 34 ∨ n = 35 ∨ n = 36 by omega) with rfl | rfl | rfl | rfl | rfl | rfl | rfl | rfl | rfl | rfl | rfl | rfl | rfl | rfl | rfl | rfl | rfl | rfl | rfl | rfl | rfl | rfl | rfl | rfl | rfl | rfl | rfl | rfl | rfl | rfl | rfl | rfl | rfl | rfl | rfl | rfl | rfl
      · exact r_tabIn (tgt := 208) dL_law_44 (by decide) (by decide) rfl (by decide) (lc_0 hI h5 hG K)
      · exact r_tabIn (tgt := 288) dL_law_44 (by decide) (by decide) rfl (by decide) (lc_1 hI h5 hG K)
      · exact r_tabIn (tgt := 380) dL_law_44 (by decide) (by decide) rfl (by decide) (lc_2 hI h5 hG K)
      · exact r_tabIn (tgt := 460) dL_law_44 (by decide) (by decide) rfl (by decide) (lc_3 hI h5 hG K)
      · exact r_tabIn (tgt := 528) dL_law_44 (by decide) (by decide) rfl (by decide) (lc_4 hI h5 hG K)
      · exact r_tabIn (tgt := 608) dL_law_44 (by decide) (by decide) rfl (by decide) (lc_5 hI h5 hG K)
      · exact r_tabIn (tgt := 688) dL_law_44 (by decide) (by decide) rfl (by decide) (lc_6 hI h5 hG K)
      · exact r_tabIn (tgt := 744) dL_law_44 (by decide) (by decide) rfl (by decide) (lc_7 hI h5 hG K)
      · exact r_tabIn (tgt := 800) dL_law_44 (by decide) (by decide) rfl (by decide) (lc_8 hI h5 hG K)
      · exact r_tabIn (tgt := 868) dL_law_44 (by decide) (by decide) rfl (by decide) (lc_9 hI h5 hG K)
      · exact r_tabIn (tgt := 936) dL_law_44 (by decide) (by decide) rfl (by decide) (lc_10 hI h5 hG K)
      · exact r_tabIn (tgt := 1004) dL_law_44 (by decide) (by decide) rfl (by decide) (lc_11 hI h5 hG K)
      · exact r_tabIn (tgt := 1017) dL_law_44 (by decide) (by decide) rfl (by decide) (lc_12 hI h5 hG K)
      · exact r_tabIn (tgt := 1073) dL_law_44 (by decide) (by decide) rfl (by decide) (lc_13 hI h5 hG K)
      · exact r_tabIn (tgt := 1129) dL_law_44 (by decide) (by decide) rfl (by decide) (lc_14 hI h5 hG K)
      · exact r_tabIn (tgt := 1185) dL_law_44 (by decide) (by decide) rfl (by decide) (lc_15 hI h5 hG K)
      · exact r_tabIn (tgt := 1262) dL_law_44 (by decide) (by decide) rfl (by decide) (lc_16 hI h5 hG K)
      · exact r_tabIn (tgt := 1275) dL_law_44 (by decide) (by decide) rfl (by decide) (lc_17 hI h5 hG K)
      · exact r_tabIn (tgt := 1331) dL_law_44 (by decide) (by decide) rfl (by decide) (lc_18 hI h5 hG K)
      · exact r_tabIn (tgt := 1344) dL_law_44 (by decide) (by decide) rfl (by decide) (lc_19 hI h5 hG K)
      · exact r_tabIn (tgt := 1400) dL_law_44 (by decide) (by decide) rfl (by decide) (lc_20 hI h5 hG K)
      · exact r_tabIn (tgt := 1468) dL_law_44 (by decide) (by decide) rfl (by decide) (lc_21 hI h5 hG K)
      · exact r_tabIn (tgt := 1536) dL_law_44 (by decide) (by decide) rfl (by decide) (lc_22 hI h5 hG K)
      · exact r_tabIn (tgt := 1592) dL_law_44 (by decide) (by decide) rfl (by decide) (lc_23 hI h5 hG K)
      · exact r_tabIn (tgt := 1660) dL_law_44 (by decide) (by decide) rfl (by decide) (lc_24 hI h5 hG K)
      · exact r_tabIn (tgt := 1716) dL_law_44 (by decide) (by decide) rfl (by decide) (lc_25 hI h5 hG K)
      · exact r_tabIn (tgt := 1772) dL_law_44 (by decide) (by decide) rfl (by decide) (lc_26 hI h5 hG K)
      · exact r_tabIn (tgt := 1785) dL_law_44 (by decide) (by decide) rfl (by decide) (lc_27 hI h5 hG K)
      · exact r_tabIn (tgt := 1841) dL_law_44 (by decide) (by decide) rfl (by decide) (lc_28 hI h5 hG K)
      · exact r_tabIn (tgt := 1909) dL_law_44 (by decide) (by decide) rfl (by decide) (lc_29 hI h5 hG K)
      · exact r_tabIn (tgt := 1922) dL_law_44 (by decide) (by decide) rfl (by decide) (lc_30 hI h5 hG K)
      · exact r_tabIn (tgt := 1978) dL_law_44 (by decide) (by decide) rfl (by decide) (lc_31 hI h5 hG K)
      · exact r_tabIn (tgt := 1991) dL_law_44 (by decide) (by decide) rfl (by decide) (lc_32 hI h5 hG K)
      · exact r_tabIn (tgt := 2029) dL_law_44 (by decide) (by decide) rfl (by decide) (lc_33 hI h5 hG K)
      · exact r_tabIn (tgt := 2073) dL_law_44 (by decide) (by decide) rfl (by decide) (lc_34 hI h5 hG K)
      · exact r_tabIn (tgt := 2129) dL_law_44 (by decide) (by decide) rfl (by decide) (lc_35 hI h5 hG K)
      · exact r_tabIn (tgt := 2140) dL_law_44 (by decide) (by decide) rfl (by decide) (lc_36 hI h5 hG K)
    · have cs : iIn x 0 36 = false := by simpa using cs
      refine r_tabOut (tgt := 2164) dL_law_44 (by have q := of_decide_eq_false cs; omega) (by decide) ?_
      exact s_mono (Nat.le_refl _) (by omega) (by omega) (fun _ _ q => q) (K z s hI)
