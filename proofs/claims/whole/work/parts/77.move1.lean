/-! ===== move: class and reference ===== -/
theorem c_shiftR {G : q_G} {s : s_T} {X : x_T} {o m a b : Nat} (ho : isX7 o) (hC : c_R X s o) (hw : x_wf X) (hm : m < 4) (ha : a < X (179 + m)) (hb : b < X (179 + m)) : s_W G mX5_shift 1 0 0 (c_V (fun s1 => c_R (x_mv X m a b) s1 o ∧ s_fr (o + 37 + m) (o + 37 + m + 1) s s1)) 0 (q_ent mX5_shift [.ref (o + 34), .int (nI m), .int (nI a), .int (nI b)]) [] s := by
  have hbn := x_mn hw hm
  refine s_mono (Nat.le_refl _) (Nat.le_refl _) (Nat.le_refl _) ?_ (c_shift (X7_orders ho) hm (by omega) (by omega))
  rintro r s1 ⟨rfl, h1, h2⟩
  rw [show o + 34 + 3 + m = o + 37 + m by omega] at h1 h2
  refine ⟨rfl, c_R_row hC hw hm (x_mv_pr hw hm ha b hb).1 h2 (fun p hp => ?_), h2⟩
  rw [h1 p (by omega), x_mv_at]
  by_cases e1 : p = b
  · rw [if_pos e1, if_pos (by omega)]; exact cl_ord hC hm ha
  · by_cases e2 : a ≤ p ∧ p < b
    · rw [if_neg e1, if_pos e2, if_neg (by omega), if_pos (by omega)]; exact cl_ord hC hm (p := p + 1) (by omega)
    · by_cases e3 : b < p ∧ p ≤ a
      · rw [if_neg e1, if_neg e2, if_pos e3, if_neg (by omega), if_neg (by omega), if_pos (by omega), show 183 + 5 * m + p - 1 = 183 + 5 * m + (p - 1) by omega]; exact cl_ord hC hm (by omega)
      · rw [if_neg e1, if_neg e2, if_neg e3, if_neg (by omega), if_neg (by omega), if_neg (by omega)]; exact cl_ord hC hm hp
set_option maxRecDepth 20000 in
set_option maxHeartbeats 1000000 in
theorem c_move {G : q_G} {s : s_T} {z : z_T} (hz : z_wf z) (hZ : c_Z z s) {k p : Int32} : s_W G mX11_move 8 3 18 (c_P [q_IO, q_IA, q_IS] (A_move z k p) s) 0 (q_ent mX11_move [.ref 0, .int k, .int p]) [] s := by
  show s_W G mX11_move 8 3 18 _ 0 [some (.ref 0), some (.int k), some (.int p), none, none] [] s
  have hw := hz.1.1
  have hs := x_sz hw
  have hC := hZ.1
  have hf : s_fr 0 212 s s := s_fr_rf
  have ho : isX7 1 := Or.inl rfl
  refine r_aload_n dX11_move_0 rfl rfl ?_
  refine r_iload_n dX11_move_1 rfl rfl ?_
  refine s_V1X mX11_requireOperation dX11_move_2 okX11_requireOperation lX11_151 npX11_requireOperation lysX11 rfl (by decide) (by decide) (by decide) (Nat.le_of_ble_eq_true rfl) (Nat.le_of_ble_eq_true rfl) (c_requireOperation hC hw) (fun v s1 hq => ?_) (fun E s1 hq => by obtain ⟨rfl, c9, rfl⟩ := c_rq_f hq; exact x_out rfl (s_end (c_P_e 1 (by unfold A_move; simp [*]) (by decide) rfl hZ hf)))
  obtain ⟨rfl, c2, rfl⟩ := c_rq_t hq
  obtain ⟨k, rfl, hk, hk2⟩ := iLt_n c2
  have ek := iN_n hk2
  have hop := x_op hw hk
  have hpo := x_po_ok hw hk
  have hmn := x_mn hw hop.2.2.2.2.2.2.1
  refine r_aload_n dX11_move_5 rfl rfl ?_
  refine s_getR dX11_move_6 fX11_10 lysX11 rfl ?_
  refine s_getR dX11_move_9 fX11_187 (layX7 isX7_1) rfl ?_
  refine r_iload_n dX11_move_12 rfl rfl ?_
  refine a_ld dX11_move_13 (X7_machineOf isX7_1) (by omega) (by decide) (cl_mc hC (by omega)) ?_
  refine r_istore_n dX11_move_14 rfl (by decide) rfl ?_
  refine r_aload_n dX11_move_15 rfl rfl ?_
  refine s_getR dX11_move_16 fX11_10 lysX11 rfl ?_
  refine s_getR dX11_move_19 fX11_196 (layX7 isX7_1) rfl ?_
  refine r_iload_n dX11_move_22 rfl rfl ?_
  refine r_iload_n dX11_move_23 rfl rfl ?_
  refine s_V2I mX5_contains dX11_move_24 okX5_contains lX11_208 npX5_contains (layX5 (X7_orders isX7_1)) rfl (by decide) (by decide) (by decide) (Nat.le_of_ble_eq_true rfl) (Nat.le_of_ble_eq_true rfl) (c_contains2 isX5_35 (c_R_O hC) hop.2.2.2.2.2.2.1 (x_mn hw hop.2.2.2.2.2.2.1).2) (fun x s1 hq => ?_)
  obtain ⟨rfl, rfl⟩ := hq
  refine b_ifne (tgt := 40) dX11_move_27 (by decide) (fun c27 => ?_) (fun c27 => ?_)
  · obtain ⟨p, rfl, hp, hp2⟩ := iLt_n c27
    have ep := iN_n hp2
    obtain ⟨hu9, hu9a, hu9b⟩ := (c_Q_h (c_Z_Q hZ) (Or.inl rfl)).2.2
    refine r_aload_n dX11_move_40 rfl rfl ?_
    refine s_getR dX11_move_41 fX11_10 lysX11 rfl ?_
    refine s_getR dX11_move_44 fX11_196 (layX7 isX7_1) rfl ?_
    refine r_iload_n dX11_move_47 rfl rfl ?_
    refine r_iload_n dX11_move_48 rfl rfl ?_
    refine s_V2I mX5_positionOf dX11_move_49 okX5_positionOf lX11_200 npX5_positionOf (layX5 (X7_orders isX7_1)) rfl (by decide) (by decide) (by decide) (Nat.le_of_ble_eq_true rfl) (Nat.le_of_ble_eq_true rfl) (c_positionOf isX5_35 (c_R_O hC) hw hop.2.2.2.2.2.2.1 hpo.1 hpo.2 hk) (fun x s1 hq => ?_)
    obtain ⟨rfl, rfl⟩ := hq
    refine r_istore dX11_move_52 (by decide) rfl ?_
    refine r_aload_n dX11_move_54 rfl rfl ?_
    refine s_getR dX11_move_55 fX11_10 lysX11 rfl ?_
    refine s_getR dX11_move_58 fX11_196 (layX7 isX7_1) rfl ?_
    refine r_iload_n dX11_move_61 rfl rfl ?_
    refine r_iload dX11_move_62 rfl ?_
    refine r_iload_n dX11_move_64 rfl rfl ?_
    refine s_V3V mX5_shift dX11_move_65 okX5_shift lX11_298 npX5_shift (layX5 (X7_orders isX7_1)) rfl (by decide) (by decide) (by decide) (Nat.le_of_ble_eq_true rfl) (Nat.le_of_ble_eq_true rfl) (c_shiftR ho hC hw hop.2.2.2.2.2.2.1 hpo.1 hp) (fun s1 hq => ?_)
    obtain ⟨hC2, hfa⟩ := hq
    have hpr := x_mv_pr hw hop.2.2.2.2.2.2.1 hpo.1 p hp
    have hw2 := x_pr_wf hw hop.2.2.2.2.2.2.1 hpr
    have lo2 : ∀ k9, k9 < 183 → (x_mv (z 0) (z 0 (62 + k)) (x_po (z 0) k) p) k9 = z 0 k9 := fun k9 hk9 => x_pr_lo hpr hk9
    have hea : c_eq _ _ := c_eq_fr hfa (by omega)
    refine r_aload_n dX11_move_68 rfl rfl ?_
    refine s_getR dX11_move_69 fX11_25 lysX11 rfl ?_
    refine r_aload_n dX11_move_72 rfl rfl ?_
    refine s_getR dX11_move_73 fX11_10 lysX11 rfl ?_
    refine s_V1I mX10_compute dX11_move_76 okX10_compute lX11_221 npX10_compute (layX10 isX10_124) rfl (by decide) (by decide) (by decide) (Nat.le_of_ble_eq_true rfl) (Nat.le_of_ble_eq_true rfl) (c_compute (op := n0) (hk := none) (hu := hu9) ho isX10_124 hC2 hw2 (fun m hm => by rw [hfa (124 + 5) (by omega)]; exact (c_Q_h (c_Z_Q hZ) (Or.inl rfl)).1 m hm) ⟨by rw [hfa 124 (by omega)]; exact (c_Q_h (c_Z_Q hZ) (Or.inl rfl)).2.1, by rw [hfa 124 (by omega)]; exact hu9b⟩ hu9a (fun q e => by cases e)) (fun x s1 hq => ?_)
    obtain ⟨K, r, t, rk, sd, rfl, M, hT, T, -, h5, h6, hsd, hsd2, hK, h55, h9, h10, hfb⟩ := hq
    rw [x_sp_hu hw2]
    replace hC2 := c_R_fr hC2 hfb (Or.inl (by omega)) (x_sz hw2).1
    have he : c_eq _ _ := c_eq_tr hea (c_eq_tt (Or.inl rfl) h55 h9 h10 hfb)
    have hf : s_fr 0 212 _ _ := s_fr_tr (s_fr_tr hf (s_fr_w hfa (by omega) (by omega))) (s_fr_w hfb (by omega) (by omega))
    refine b_ifne (tgt := 111) dX11_move_79 (by decide) (fun c79 => ?_) (fun c79 => ?_)
    · refine r_aload_n dX11_move_111 rfl rfl ?_
      refine s_getR dX11_move_112 fX11_25 lysX11 rfl ?_
      refine s_getI dX11_move_115 fX11_242 (layX10 isX10_124) rfl h6 ?_
      refine s_iret dX11_move_118 rfl rfl ?_
      rw [x_ke_s0 ⟨hw2, x_acb_t c79⟩ T M]
      exact c_P_n (X := (x_mv (z 0) (z 0 (62 + k)) (x_po (z 0) k) p)) (by unfold A_move A_ch; rw [if_pos c2, ek, if_pos c27, ep, if_pos c79]) (c_Z_eq hZ hC2 he (z_J hz)) hf
    · refine r_aload_n dX11_move_82 rfl rfl ?_
      refine s_getR dX11_move_83 fX11_10 lysX11 rfl ?_
      refine s_getR dX11_move_86 fX11_196 (layX7 isX7_1) rfl ?_
      refine r_iload_n dX11_move_89 rfl rfl ?_
      refine r_iload_n dX11_move_90 rfl rfl ?_
      refine r_iload dX11_move_91 rfl ?_
      refine s_V3V mX5_shift dX11_move_93 okX5_shift lX11_298 npX5_shift (layX5 (X7_orders isX7_1)) rfl (by decide) (by decide) (by decide) (Nat.le_of_ble_eq_true rfl) (Nat.le_of_ble_eq_true rfl) (c_shiftR ho hC2 hw2 hop.2.2.2.2.2.2.1 (by rw [lo2 _ (by omega)]; exact hp) (by rw [lo2 _ (by omega)]; exact hpo.1)) (fun s1 hq => ?_)
      obtain ⟨hC3, hfc⟩ := hq
      rw [x_mv_back] at hC3
      obtain ⟨k0, k1, k2, k3, k4, k5⟩ := x_acb_f hw2 c79 T M
      refine r_aload_n dX11_move_96 rfl rfl ?_
      refine s_V0V mX11_noteCycle dX11_move_97 okX11_noteCycle lX11_293 npX11_noteCycle lysX11 rfl (by decide) (by decide) (by decide) (Nat.le_of_ble_eq_true rfl) (Nat.le_of_ble_eq_true rfl) (c_noteCycle (K := K) (sd := sd) hC3 hw (fun j hj => by rw [hfc (124 + 6) (by omega)]; exact hsd j hj) (fun j hj => by have q := hsd2 j (by rw [lo2 0 (by omega)]; exact hj); rw [lo2 (17 + j) (by omega)] at q; exact q) (fun o ho9 => by have q := hK o (by rw [lo2 1 (by omega)]; exact ho9); rw [lo2 (122 + o) (by omega), lo2 (42 + o) (by omega)] at q; exact q) (by rw [← lo2 1 (by omega)]; exact k1) k2 k3 (by rw [hfc 124 (by omega)]; exact h5) (by rw [← lo2 1 (by omega)]; exact x_ct_le _)) (fun s1 hq => ?_)
      obtain ⟨w0, w1, w2, w3, hfd⟩ := hq
      have hZ3 := c_Z_e0 hZ hz hC3 (c_eq_tr he (c_eq_fr hfc (by omega)))
      refine s_throwSW dX11_move_100 dX11_move_103 dX11_move_104 dX11_move_107 dX11_move_110 thrX11_296_107 rfl (by decide) (by decide) (by decide) (Nat.le_of_ble_eq_true rfl) ?_
      rw [k4] at w1
      rw [← lo2 1 (by omega), k5] at w2
      exact c_P_e (z := z_cyc z (x_mv (z 0) (z 0 (62 + k)) (x_po (z 0) k) p)) 3 (by unfold A_move A_ch; rw [if_pos c2, ek, if_pos c27, ep, if_neg (by rw [c79]; decide)]) (by decide) rfl (c_Z_cyc hZ3 hz w0 w1 w2 w3 hfd) (s_fr_tr (s_fr_tr hf (s_fr_w hfc (by omega) (by omega))) (s_fr_w hfd (by omega) (by omega)))
  · refine s_throwS dX11_move_30 dX11_move_33 dX11_move_34 dX11_move_36 dX11_move_39 thrX11_213_96 rfl (by decide) (by decide) (by decide) (Nat.le_of_ble_eq_true rfl) ?_
    exact c_P_e 2 (by unfold A_move; simp [*]) (by decide) rfl hZ hf
set_option maxRecDepth 20000 in
set_option maxHeartbeats 1000000 in
theorem c_mShift {G : q_G} {s : s_T} {X : x_T} {m a b : Nat} (hM : m_R X s) (hm : m < 4) (ha : a < 5) (hb : b < 5) : s_W G mX12_shift 4 0 0 (c_V (fun s1 => m_R (x_mv X m a b) s1 ∧ s_fr 213 214 s s1)) 0 (q_ent mX12_shift [.ref 212, .int (nI m), .int (nI a), .int (nI b)]) [] s := by
  show s_W G mX12_shift 4 0 0 _ 0 [some (.ref 212), some (.int (nI m)), some (.int (nI a)), some (.int (nI b)), none] [] s
  have l2 : ∀ f i s1, m_R (x_mv X m a i) s1 → s_fr 213 214 s s1 → b ≤ i → i ≤ a → i < f → s_W G mX12_shift 4 0 0 (c_V (fun s1 => m_R (x_mv X m a b) s1 ∧ s_fr 213 214 s s1)) 25 [some (.ref 212), some (.int (nI m)), some (.int (nI a)), some (.int (nI b)), some (.int (nI i))] [] s1 := by
    intro f
    induction f with
    | zero =>
      intro i s1 hM hf hi hi2 hme
      exact absurd hme (by omega)
    | succ f ih2 =>
      intro i s1 hM hf hi hi2 hme
      refine r_iload dX12_shift_25 rfl ?_
      refine r_iload_n dX12_shift_27 rfl rfl ?_
      refine n_cle (tgt := 46) dX12_shift_28 (by decide) (by omega) (by omega) (fun c28 => ?_) (fun c28 => ?_)
      · refine s_vret dX12_shift_46 rfl ?_
        have e9 : i = b := by omega
        subst e9
        exact ⟨rfl, hM, hf⟩
      · refine r_aload_n dX12_shift_31 rfl rfl ?_
        refine r_iload_n dX12_shift_32 rfl rfl ?_
        refine r_iload dX12_shift_33 rfl ?_
        refine n_const 1 dX12_shift_35 (by decide) ?_
        refine n_sub dX12_shift_36 (by omega) ?_
        refine s_V2V mX12_exchange dX12_shift_37 okX12_exchange lX12_221 npX12_exchange lysX12 rfl (by decide) (by decide) (by decide) (Nat.le_of_ble_eq_true rfl) (Nat.le_of_ble_eq_true rfl) (c_mExchange hM hm (by omega)) (fun s1 hq => ?_)
        obtain ⟨hM2, hf2⟩ := hq
        refine n_inc dX12_shift_40 rfl (n_dec (by omega)) (by decide) rfl ?_
        refine r_goto (tgt := 25) dX12_shift_43 (by decide) ?_
        refine ih2 (i - 1) _ ?_ (s_fr_tr hf hf2) (by omega) (by omega) (by omega)
        have q := x_mv_dn (X := X) (m := m) (a := a) (b := i - 1) (by omega)
        rw [Nat.sub_add_cancel (by omega)] at q
        rw [← q]
        exact hM2
  have l1 : ∀ f i s1, m_R (x_mv X m a i) s1 → s_fr 213 214 s s1 → a ≤ i → (i ≤ b ∨ i = a) → 5 < i + f → s_W G mX12_shift 4 0 0 (c_V (fun s1 => m_R (x_mv X m a b) s1 ∧ s_fr 213 214 s s1)) 3 [some (.ref 212), some (.int (nI m)), some (.int (nI a)), some (.int (nI b)), some (.int (nI i))] [] s1 := by
    intro f
    induction f with
    | zero =>
      intro i s1 hM hf hi hi2 hme
      exact absurd hme (by omega)
    | succ f ih =>
      intro i s1 hM hf hi hi2 hme
      refine r_iload dX12_shift_3 rfl ?_
      refine r_iload_n dX12_shift_5 rfl rfl ?_
      refine n_cge (tgt := 22) dX12_shift_6 (by decide) (by omega) (by omega) (fun c6 => ?_) (fun c6 => ?_)
      · refine r_iload_n dX12_shift_22 rfl rfl ?_
        refine r_istore dX12_shift_23 (by decide) rfl ?_
        have e9 : i = b ∨ (i = a ∧ b < a) := by omega
        rcases e9 with e9 | ⟨e9, e8⟩
        · subst e9
          refine r_iload dX12_shift_25 rfl ?_
          refine r_iload_n dX12_shift_27 rfl rfl ?_
          refine n_cle (tgt := 46) dX12_shift_28 (by decide) (by omega) (by omega) (fun c28 => ?_) (fun c28 => ?_)
          · refine s_vret dX12_shift_46 rfl ?_
            exact ⟨rfl, hM, hf⟩
          · exact absurd c28 (by omega)
        · subst e9
          exact l2 (i + 1) i _ hM hf (by omega) (by omega) (by omega)
      · refine r_aload_n dX12_shift_9 rfl rfl ?_
        refine r_iload_n dX12_shift_10 rfl rfl ?_
        refine r_iload dX12_shift_11 rfl ?_
        refine s_V2V mX12_exchange dX12_shift_13 okX12_exchange lX12_221 npX12_exchange lysX12 rfl (by decide) (by decide) (by decide) (Nat.le_of_ble_eq_true rfl) (Nat.le_of_ble_eq_true rfl) (c_mExchange hM hm (by omega)) (fun s1 hq => ?_)
        obtain ⟨hM2, hf2⟩ := hq
        refine n_inc dX12_shift_16 rfl (n_i1 _) (by decide) rfl ?_
        refine r_goto (tgt := 3) dX12_shift_19 (by decide) ?_
        refine ih (i + 1) _ ?_ (s_fr_tr hf hf2) (by omega) (by omega) (by omega)
        rw [← x_mv_up (by omega)]
        exact hM2
  refine r_iload_n dX12_shift_0 rfl rfl ?_
  refine r_istore dX12_shift_1 (by decide) rfl ?_
  exact l1 6 a s (by rw [x_mv_rf]; exact hM) s_fr_rf (by omega) (by omega) (by omega)
set_option maxRecDepth 20000 in
set_option maxHeartbeats 1000000 in
theorem m_move {G : q_G} {s : s_T} {z : z_T} (hz : z_wf z) (hM : m_R (z 0) s) (hO : m_O z s) {k p : Int32} : s_W G mX12_move 9 0 0 (m_P (A_move z k p) s) 0 (q_ent mX12_move [.ref 212, .int k, .int p]) [] s := by
  show s_W G mX12_move 9 0 0 _ 0 [some (.ref 212), some (.int k), some (.int p), none, none] [] s
  have hw := hz.1.1
  have hs := x_sz hw
  have hf : s_fr 212 234 s s := s_fr_rf
  refine r_aload_n dX12_move_0 rfl rfl ?_
  refine r_aload_n dX12_move_1 rfl rfl ?_
  refine r_iload_n dX12_move_2 rfl rfl ?_
  refine s_V1I mX12_isOperation dX12_move_3 okX12_isOperation lX12_135 npX12_isOperation lysX12 rfl (by decide) (by decide) (by decide) (Nat.le_of_ble_eq_true rfl) (Nat.le_of_ble_eq_true rfl) (c_mIsOperation hM hw) (fun x s1 hq => ?_)
  obtain ⟨rfl, rfl⟩ := hq
  refine b_ifne (tgt := 13) dX12_move_6 (by decide) (fun c6 => ?_) (fun c6 => ?_)
  · obtain ⟨k, rfl, hk, hk2⟩ := iLt_n c6
    have ek := iN_n hk2
    have hop := x_op hw hk
    have hpo := x_po_ok hw hk
    have hmn := x_mn hw hop.2.2.2.2.2.2.1
    refine r_iload_n dX12_move_13 rfl rfl ?_
    refine r_i2l dX12_move_14 rfl ?_
    refine r_lconst (v := (nI 0).toInt64) dX12_move_15 (by decide) ?_
    refine r_aload_n dX12_move_16 rfl rfl ?_
    refine s_getR dX12_move_17 fX12_9 lysX12 rfl ?_
    refine n_sip 179 dX12_move_20 (by decide) ?_
    refine r_aload_n dX12_move_23 rfl rfl ?_
    refine s_getR dX12_move_24 fX12_9 lysX12 rfl ?_
    refine n_bip 62 dX12_move_27 (by decide) ?_
    refine r_iload_n dX12_move_29 rfl rfl ?_
    refine n_add dX12_move_30 ?_
    refine m_ld dX12_move_31 hM (by omega) ?_
    try simp (disch := omega) only [va_up_n, va_up_s]
    refine n_add dX12_move_32 ?_
    refine m_ld dX12_move_33 hM (by omega) ?_
    try simp (disch := omega) only [va_up_n, va_up_s]
    refine n_const 1 dX12_move_34 (by decide) ?_
    refine r_isub dX12_move_35 ?_
    refine r_i2l dX12_move_36 rfl ?_
    refine s_S3I mX12_in dX12_move_37 okX12_in lX12_82 npX12_in (by decide) (by decide) (by decide) (Nat.le_of_ble_eq_true rfl) (Nat.le_of_ble_eq_true rfl) (c_in3 (by omega)) (fun x s1 hq => ?_)
    obtain ⟨rfl, rfl⟩ := hq
    refine b_ifne (tgt := 47) dX12_move_40 (by decide) (fun c40 => ?_) (fun c40 => ?_)
    · obtain ⟨p, rfl, hp, hp2⟩ := iLt_n c40
      have ep := iN_n hp2
      refine n_const 0 dX12_move_47 (by decide) ?_
      refine a_put dX12_move_48 gX12_79 lysX12 rfl rfl rfl (fun s1 hs1 hf1 => ?_)
      have h3 := (congrFun hs1 3).trans pk_us
      have hM := m_R_fr hM hf1 (Or.inr (by omega))
      have hO := m_O_eq hO (m_eq_put hs1 hf1 (by decide))
      have hf := s_fr_tr hf (s_fr_w (lo' := 212) (hi' := 234) hf1 (by omega) (by omega))
      refine r_aload_n dX12_move_51 rfl rfl ?_
      refine s_getI dX12_move_52 fX12_79 lysX12 rfl h3 ?_
      refine n_ifle (tgt := 60) dX12_move_55 (by decide) (by omega) (fun c55 => ?_) (fun c55 => ?_)
      · refine r_aload_n dX12_move_60 rfl rfl ?_
        refine s_getR dX12_move_61 fX12_9 lysX12 rfl ?_
        refine n_bip 62 dX12_move_64 (by decide) ?_
        refine r_iload_n dX12_move_66 rfl rfl ?_
        refine n_add dX12_move_67 ?_
        refine m_ld dX12_move_68 hM (by omega) ?_
        try simp (disch := omega) only [va_up_n, va_up_s]
        refine r_istore_n dX12_move_69 rfl (by decide) rfl ?_
        refine r_aload_n dX12_move_70 rfl rfl ?_
        refine r_iload_n dX12_move_71 rfl rfl ?_
        refine s_V1I mX12_positionOf dX12_move_72 okX12_positionOf lX12_147 npX12_positionOf lysX12 rfl (by decide) (by decide) (by decide) (Nat.le_of_ble_eq_true rfl) (Nat.le_of_ble_eq_true rfl) (c_mPositionOf hM hw (by omega) (x_po_ok hw (by omega)).1 (x_po_ok hw (by omega)).2) (fun x s1 hq => ?_)
        obtain ⟨rfl, rfl⟩ := hq
        refine r_istore dX12_move_75 (by decide) rfl ?_
        refine r_aload_n dX12_move_77 rfl rfl ?_
        refine r_iload_n dX12_move_78 rfl rfl ?_
        refine r_iload dX12_move_79 rfl ?_
        refine r_iload_n dX12_move_81 rfl rfl ?_
        refine s_V3V mX12_shift dX12_move_82 okX12_shift lX12_229 npX12_shift lysX12 rfl (by decide) (by decide) (by decide) (Nat.le_of_ble_eq_true rfl) (Nat.le_of_ble_eq_true rfl) (c_mShift hM hop.2.2.2.2.2.2.1 (by omega) (by omega)) (fun s1 hq => ?_)
        obtain ⟨hM2, hf1⟩ := hq
        have hpr := x_mv_pr hw hop.2.2.2.2.2.2.1 hpo.1 p hp
        have hw2 := x_pr_wf hw hop.2.2.2.2.2.2.1 hpr
        replace hO := m_O_eq hO (m_eq_fr hf1 (by omega))
        replace h3 := (congrFun (hf1 212 (by omega)) 3).trans h3
        replace hf := s_fr_tr hf (s_fr_w hf1 (by omega) (by omega))
        refine r_aload_n dX12_move_85 rfl rfl ?_
        refine s_V0I mX12_failsByCycle dX12_move_86 okX12_failsByCycle lX12_225 npX12_failsByCycle lysX12 rfl (by decide) (by decide) (by decide) (Nat.le_of_ble_eq_true rfl) (Nat.le_of_ble_eq_true rfl) (c_failsByCycle hM2 hO.2.2.2.2.2.2.2.2.2.1 hO.2.2.2.2.2.2.2.2.2.2.1 hw2) (fun x s1 hq => ?_)
        obtain ⟨rfl, hq1, hq2⟩ := hq
        refine b_ifeq (tgt := 107) dX12_move_89 (by decide) (fun c89 => ?_) (fun c89 => ?_)
        · have hac : x_acb (x_mv (z 0) (z 0 (62 + k)) (x_po (z 0) k) p) = true := by simpa using c89
          obtain ⟨ht, hf3⟩ := hq1 hac
          have hM3 := m_R_fr hM2 hf3 (Or.inl (by omega))
          have hO3 := m_O_eq hO (m_eq_fr hf3 (by omega))
          have h33 := (congrFun (hf3 212 (by omega)) 3).trans h3
          have hff := s_fr_tr hf (s_fr_w (lo' := 212) (hi' := 234) hf3 (by omega) (by omega))
          refine r_aload_n dX12_move_107 rfl rfl ?_
          refine s_V0I mX12_greatestEnd dX12_move_108 okX12_greatestEnd lX12_185 npX12_greatestEnd lysX12 rfl (by decide) (by decide) (by decide) (Nat.le_of_ble_eq_true rfl) (Nat.le_of_ble_eq_true rfl) (c_greatestEnd0 hM3 ⟨hw2, x_acb_t hac⟩ ht) (fun x s1 hq => ?_)
          obtain ⟨rfl, rfl⟩ := hq
          refine s_iret dX12_move_111 rfl rfl ?_
          exact m_P_x (by unfold A_move A_ch; rw [if_pos c6, ek, if_pos c40, ep, if_pos hac]) h33 hM3 hO3 hff
        · have hac : x_acb (x_mv (z 0) (z 0 (62 + k)) (x_po (z 0) k) p) = false := by simpa using c89
          obtain ⟨⟨w0, w1, w2, w3⟩, r1, r2⟩ := hq2 hac
          have hM3 : m_R (x_mv (z 0) (z 0 (62 + k)) (x_po (z 0) k) p) s1 := fun k hk => by rw [r2 213 (by decide) (by decide) (by decide) (by decide)]; exact hM2 k hk
          refine r_aload_n dX12_move_92 rfl rfl ?_
          refine r_iload_n dX12_move_93 rfl rfl ?_
          refine r_iload_n dX12_move_94 rfl rfl ?_
          refine r_iload dX12_move_95 rfl ?_
          refine s_V3V mX12_shift dX12_move_97 okX12_shift lX12_229 npX12_shift lysX12 rfl (by decide) (by decide) (by decide) (Nat.le_of_ble_eq_true rfl) (Nat.le_of_ble_eq_true rfl) (c_mShift hM3 hop.2.2.2.2.2.2.1 (by omega) (by omega)) (fun s1 hq => ?_)
          obtain ⟨hM4, hf4⟩ := hq
          rw [x_mv_back] at hM4
          refine r_aload_n dX12_move_100 rfl rfl ?_
          refine n_const 3 dX12_move_101 (by decide) ?_
          refine a_put dX12_move_102 gX12_79 lysX12 rfl rfl rfl (fun s5 hs5 hf5 => ?_)
          refine n_const 0 dX12_move_105 (by decide) ?_
          refine s_iret dX12_move_106 rfl rfl ?_
          have hOc : m_O (z_cyc z (x_mv (z 0) (z 0 (62 + k)) (x_po (z 0) k) p)) s5 := by
            refine m_O_cyc hO (s1 := s5) ?_ ?_ ?_ ?_ (fun k hk => ?_) (fun j hj => ?_)
            · rw [hf5 216 (by omega), hf4 216 (by omega)]; exact w0
            · rw [hf5 216 (by omega), hf4 216 (by omega)]; exact w1
            · rw [hf5 216 (by omega), hf4 216 (by omega)]; exact w2
            · rw [hs5, pk_un (by decide), hf4 212 (by omega)]; exact w3
            · rw [hf5 k (by omega), hf4 k (by omega), r2 k (by omega) (by omega) (by omega) (by omega)]
            · rw [hs5, pk_un (by omega), hf4 212 (by omega), r1 j (by omega)]
          have hfe : s_fr 212 234 _ s5 := s_fr_tr hf (fun k hk => by rw [hf5 k (by omega), hf4 k (by omega), r2 k (by omega) (by omega) (by omega) (by omega)])
          exact m_P_i (b := (3, 0, z_cyc z (x_mv (z 0) (z 0 (62 + k)) (x_po (z 0) k) p))) (by unfold A_move A_ch; rw [if_pos c6, ek, if_pos c40, ep, if_neg (by rw [hac]; decide)]) (fun q => absurd q (Nat.succ_ne_zero 2)) (by rw [hs5, pk_us]) (m_R_fr hM4 hf5 (Or.inr (by omega))) hOc hfe
      · exact absurd c55 (by decide)
    · refine n_const 2 dX12_move_43 (by decide) ?_
      refine r_goto (tgt := 48) dX12_move_44 (by decide) ?_
      refine a_put dX12_move_48 gX12_79 lysX12 rfl rfl rfl (fun s1 hs1 hf1 => ?_)
      have h3 := (congrFun hs1 3).trans pk_us
      have hM := m_R_fr hM hf1 (Or.inr (by omega))
      have hO := m_O_eq hO (m_eq_put hs1 hf1 (by decide))
      have hf := s_fr_tr hf (s_fr_w (lo' := 212) (hi' := 234) hf1 (by omega) (by omega))
      refine r_aload_n dX12_move_51 rfl rfl ?_
      refine s_getI dX12_move_52 fX12_79 lysX12 rfl h3 ?_
      refine n_ifle (tgt := 60) dX12_move_55 (by decide) (by omega) (fun c55 => ?_) (fun c55 => ?_)
      · exact absurd c55 (by decide)
      · refine n_const 0 dX12_move_58 (by decide) ?_
        refine s_iret dX12_move_59 rfl rfl ?_
        first
          | exact m_P_e (by unfold A_move; simp [*]) (by decide) h3 hM hO hf
  · refine n_const 1 dX12_move_9 (by decide) ?_
    refine r_goto (tgt := 48) dX12_move_10 (by decide) ?_
    refine a_put dX12_move_48 gX12_79 lysX12 rfl rfl rfl (fun s1 hs1 hf1 => ?_)
    have h3 := (congrFun hs1 3).trans pk_us
    have hM := m_R_fr hM hf1 (Or.inr (by omega))
    have hO := m_O_eq hO (m_eq_put hs1 hf1 (by decide))
    have hf := s_fr_tr hf (s_fr_w (lo' := 212) (hi' := 234) hf1 (by omega) (by omega))
    refine r_aload_n dX12_move_51 rfl rfl ?_
    refine s_getI dX12_move_52 fX12_79 lysX12 rfl h3 ?_
    refine n_ifle (tgt := 60) dX12_move_55 (by decide) (by omega) (fun c55 => ?_) (fun c55 => ?_)
    · exact absurd c55 (by decide)
    · refine n_const 0 dX12_move_58 (by decide) ?_
      refine s_iret dX12_move_59 rfl rfl ?_
      first
        | exact m_P_e (by unfold A_move; simp [*]) (by decide) h3 hM hO hf
