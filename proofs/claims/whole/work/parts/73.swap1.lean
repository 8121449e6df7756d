/-! ===== swap ===== -/
noncomputable def A_ch (z : z_T) (X : x_T) : a_T := if x_acb X = true then (0, nI (x_s0 X), va_up z 0 X) else (3, 0, z_cyc z X)
noncomputable def A_swap (z : z_T) (m p : Int32) : a_T := if iLt m 4 = true then (if iLt p (z 0 (179 + iN m) - 1) = true then A_ch z (x_sw (z 0) (iN m) (iN p)) else (2, 0, z)) else (1, 0, z)
theorem x_ke_s0 {X : x_T} {K : Nat → Bool} {hu : Nat} {r t rk : Nat → Nat} (hg : x_gd X) (T : x_TT X n0 none hu K r t rk) (M : x_mx X n0 K) : x_ke X K t = x_s0 X := by
  rw [x_ke_all (x_all0 hg T M)]
  exact x_mxe_congr _ (fun k hk => by rw [(x_tb_eq (hk := none) (hu := 0) hg.1 hg.2 (x_TT_n T) M k hk).2.2])
theorem c_Z_cyc {z : z_T} {X : x_T} {s s1 : s_T} (h : c_Z z s) (hz : z_wf z) (h0 : s1 211 0 = nI 1) (h1 : s1 211 1 = nI (100 + x_fu (x_kk X) (X 1) 0)) (h2 : s1 211 2 = nI (X 1 - x_ct (x_kk X) (X 1))) (h3 : s1 210 0 = nI 3) (hf : s_fr 210 212 s s1) : c_Z (z_cyc z X) s1 := by
  obtain ⟨a1, a2, a3, a4, a5, a6, a7, a8, a9, a10, a11, a12⟩ := h
  refine ⟨c_R_fr a1 hf (Or.inl (by omega)) (x_sz hz.1.1).1, fun q => c_R_fr (a2 q) hf (Or.inl (by omega)) (show z 1 0 ≤ 5 from z_J (z := z) hz q), ?_, ?_, ?_, ?_, ?_, ?_, ?_, ?_, ?_, ?_⟩
  · rw [hf 0 (by omega)]; exact a3
  · intro h hh; rw [hf (h + 5) (by omega), hf h (by omega)]; exact a4 h hh
  · rw [hf 152 (by omega)]; exact a5
  · rw [hf 206 (by omega)]; exact a6
  · intro k hk; rw [hf 207 (by omega)]; exact a7 k hk
  · exact h3
  · intro k hk
    have hk : k < 3 := hk
    match k, hk with
    | 0, _ => exact h0
    | 1, _ => exact h1
    | 2, _ => exact h2
  · rw [hf 150 (by omega)]; exact a10
  · intro hk k hk2; rw [hf 151 (by omega)]; exact a11 hk k hk2
  · rw [hf 161 (by omega)]; exact a12
theorem m_O_cyc {z : z_T} {X : x_T} {s s1 : s_T} (h : m_O z s) (h0 : s1 216 0 = nI 1) (h1 : s1 216 1 = nI (100 + x_fu (x_kk X) (X 1) 0)) (h2 : s1 216 2 = nI (X 1 - x_ct (x_kk X) (X 1))) (h3 : s1 212 7 = nI 3) (r : ∀ k, k = 214 ∨ k = 215 ∨ k = 217 ∨ k = 220 ∨ k = 225 → s1 k = s k) (r2 : ∀ j, j = 2 ∨ j = 5 ∨ j = 9 ∨ j = 10 ∨ j = 14 ∨ j = 15 → s1 212 j = s 212 j) : m_O (z_cyc z X) s1 := by
  obtain ⟨a1, a2, a3, a4, a5, a6, a7, a8, a9, a10, ⟨hu, b1, b2, b3⟩, a12⟩ := h
  refine ⟨fun q k hk => ?_, ?_, ?_, ?_, ?_, ?_, ?_, ?_, ?_, ?_, ⟨hu, b1, ?_, ?_⟩, ?_⟩
  · rw [r 214 (by omega)]; exact a1 q k hk
  · rw [r2 2 (by omega)]; exact a2
  · rw [r2 5 (by omega)]; exact a3
  · intro k hk; rw [r 215 (by omega)]; exact a4 k hk
  · exact h3
  · intro k hk
    have hk : k < 3 := hk
    match k, hk with
    | 0, _ => exact h0
    | 1, _ => exact h1
    | 2, _ => exact h2
  · rw [r2 9 (by omega)]; exact a7
  · intro hk k hk2; rw [r 217 (by omega)]; exact a8 hk k hk2
  · rw [r2 10 (by omega)]; exact a9
  · intro m hm; rw [r 220 (by omega)]; exact a10 m hm
  · rw [r2 14 (by omega)]; exact b2
  · rw [r2 15 (by omega)]; exact b3
  · intro k hk; rw [r 225 (by omega)]; exact a12 k hk
set_option maxRecDepth 20000 in
set_option maxHeartbeats 1000000 in
theorem c_swap {G : q_G} {s : s_T} {z : z_T} (hz : z_wf z) (hZ : c_Z z s) {m p : Int32} : s_W G mX11_swap 8 3 18 (c_P [q_IO, q_NS, q_IS] (A_swap z m p) s) 0 (q_ent mX11_swap [.ref 0, .int m, .int p]) [] s := by
  show s_W G mX11_swap 8 3 18 _ 0 [some (.ref 0), some (.int m), some (.int p)] [] s
  have hw := hz.1.1
  have hs := x_sz hw
  have hC := hZ.1
  have hf : s_fr 0 212 s s := s_fr_rf
  have ho : isX7 1 := Or.inl rfl
  refine r_iload_n dX11_swap_0 rfl rfl ?_
  refine s_S1X mX11_requireMachine dX11_swap_1 okX11_requireMachine lX11_116 npX11_requireMachine (by decide) (by decide) (by decide) (Nat.le_of_ble_eq_true rfl) (Nat.le_of_ble_eq_true rfl) c_requireMachine (fun v s1 hq => ?_) (fun E s1 hq => by obtain ⟨rfl, c9, rfl⟩ := c_rq_f hq; exact x_out rfl (s_end (c_P_e 1 (by unfold A_swap; simp [*]) (by decide) rfl hZ hf)))
  obtain ⟨rfl, c1, rfl⟩ := c_rq_t hq
  obtain ⟨m, rfl, hm, hm2⟩ := iLt_n c1
  have em := iN_n hm2
  have hmn := x_mn hw hm
  refine r_iload_n dX11_swap_4 rfl rfl ?_
  refine r_if_lt (tgt := 26) dX11_swap_5 (by decide) (fun c5 => ?_) (fun c5 => ?_)
  · refine s_throwNW dX11_swap_26 dX11_swap_29 dX11_swap_30 dX11_swap_33 dX11_swap_36 thrN_287 rfl (by decide) (by decide) (by decide) (Nat.le_of_ble_eq_true rfl) ?_
    exact c_P_e 2 (by unfold A_swap; rw [if_pos c1, em, if_neg (fun q => by have q2 := of_decide_eq_true q; simp only [Int32.lt_iff_toInt_lt, Int32.le_iff_toInt_le, i_0, nI_sub (show z 0 (179 + m) < 2 ^ 31 by omega) (show 1 < 2 ^ 31 by decide)] at *; omega)]) (by decide) rfl hZ hf
  · refine r_iload_n dX11_swap_8 rfl rfl ?_
    refine r_aload_n dX11_swap_9 rfl rfl ?_
    refine s_getR dX11_swap_10 fX11_10 lysX11 rfl ?_
    refine s_getR dX11_swap_13 fX11_196 (layX7 isX7_1) rfl ?_
    refine s_getR dX11_swap_16 fX11_266 (layX5 (X7_orders isX7_1)) rfl ?_
    refine r_iload_n dX11_swap_19 rfl rfl ?_
    refine a_ld dX11_swap_20 (X5_sizes (X7_orders isX7_1)) (by omega) (by decide) (co_on (c_R_O hC) hm) ?_
    refine n_const 1 dX11_swap_21 (by decide) ?_
    refine r_isub dX11_swap_22 ?_
    refine r_icmp_lt (tgt := 37) dX11_swap_23 (by decide) (fun c23 => ?_) (fun c23 => ?_)
    · have hx4 : iLt p (z 0 (179 + m) - 1) = true := decide_eq_true (by simp only [Int32.lt_iff_toInt_lt, Int32.le_iff_toInt_le, i_0, nI_sub (show z 0 (179 + m) < 2 ^ 31 by omega) (show 1 < 2 ^ 31 by decide)] at *; omega)
      obtain ⟨p, rfl, hp, hp2⟩ := iLt_n hx4
      have ep := iN_n hp2
      have hp9 : p + 1 < z 0 (179 + m) := by omega
      obtain ⟨hu9, hu9a, hu9b⟩ := (c_Q_h (c_Z_Q hZ) (Or.inl rfl)).2.2
      refine r_aload_n dX11_swap_37 rfl rfl ?_
      refine s_getR dX11_swap_38 fX11_10 lysX11 rfl ?_
      refine s_getR dX11_swap_41 fX11_196 (layX7 isX7_1) rfl ?_
      refine r_iload_n dX11_swap_44 rfl rfl ?_
      refine r_iload_n dX11_swap_45 rfl rfl ?_
      refine s_V2V mX5_exchange dX11_swap_46 okX5_exchange lX11_289 npX5_exchange (layX5 (X7_orders isX7_1)) rfl (by decide) (by decide) (by decide) (Nat.le_of_ble_eq_true rfl) (Nat.le_of_ble_eq_true rfl) (c_exchR ho hC hw hm hp9) (fun s1 hq => ?_)
      obtain ⟨hC2, hfa⟩ := hq
      have hw2 := x_pr_wf hw hm (x_sw_pr hw hm hp9)
      have lo2 : ∀ k, k < 183 → x_sw (z 0) m p k = z 0 k := fun k hk => x_pr_lo (x_sw_pr hw hm hp9) hk
      have hea : c_eq _ _ := c_eq_fr hfa (by omega)
      refine r_aload_n dX11_swap_49 rfl rfl ?_
      refine s_getR dX11_swap_50 fX11_25 lysX11 rfl ?_
      refine r_aload_n dX11_swap_53 rfl rfl ?_
      refine s_getR dX11_swap_54 fX11_10 lysX11 rfl ?_
      refine s_V1I mX10_compute dX11_swap_57 okX10_compute lX11_221 npX10_compute (layX10 isX10_124) rfl (by decide) (by decide) (by decide) (Nat.le_of_ble_eq_true rfl) (Nat.le_of_ble_eq_true rfl) (c_compute (op := n0) (hk := none) (hu := hu9) ho isX10_124 hC2 hw2 (fun m hm => by rw [hfa (124 + 5) (by omega)]; exact (c_Q_h (c_Z_Q hZ) (Or.inl rfl)).1 m hm) ⟨by rw [hfa 124 (by omega)]; exact (c_Q_h (c_Z_Q hZ) (Or.inl rfl)).2.1, by rw [hfa 124 (by omega)]; exact hu9b⟩ hu9a (fun q e => by cases e)) (fun x s1 hq => ?_)
      obtain ⟨K, r, t, rk, sd, rfl, M, hT, T, -, h5, h6, hsd, hsd2, hK, h55, h9, h10, hfb⟩ := hq
      rw [x_sp_hu hw2]
      replace hC2 := c_R_fr hC2 hfb (Or.inl (by omega)) (x_sz hw2).1
      have he : c_eq _ _ := c_eq_tr hea (c_eq_tt (Or.inl rfl) h55 h9 h10 hfb)
      have hf : s_fr 0 212 _ _ := s_fr_tr (s_fr_tr hf (s_fr_w hfa (by omega) (by omega))) (s_fr_w hfb (by omega) (by omega))
      refine b_ifne (tgt := 90) dX11_swap_60 (by decide) (fun c60 => ?_) (fun c60 => ?_)
      · refine r_aload_n dX11_swap_90 rfl rfl ?_
        refine s_getR dX11_swap_91 fX11_25 lysX11 rfl ?_
        refine s_getI dX11_swap_94 fX11_242 (layX10 isX10_124) rfl h6 ?_
        refine s_iret dX11_swap_97 rfl rfl ?_
        rw [x_ke_s0 ⟨hw2, x_acb_t c60⟩ T M]
        exact c_P_n (X := x_sw (z 0) m p) (by unfold A_swap A_ch; rw [if_pos c1, em, if_pos hx4, ep, if_pos c60]) (c_Z_eq hZ hC2 he (z_J hz)) hf
      · refine r_aload_n dX11_swap_63 rfl rfl ?_
        refine s_getR dX11_swap_64 fX11_10 lysX11 rfl ?_
        refine s_getR dX11_swap_67 fX11_196 (layX7 isX7_1) rfl ?_
        refine r_iload_n dX11_swap_70 rfl rfl ?_
        refine r_iload_n dX11_swap_71 rfl rfl ?_
        refine s_V2V mX5_exchange dX11_swap_72 okX5_exchange lX11_289 npX5_exchange (layX5 (X7_orders isX7_1)) rfl (by decide) (by decide) (by decide) (Nat.le_of_ble_eq_true rfl) (Nat.le_of_ble_eq_true rfl) (c_exchR ho hC2 hw2 hm (by rw [lo2 (179 + m) (by omega)]; exact hp9)) (fun s1 hq => ?_)
        obtain ⟨hC3, hfc⟩ := hq
        rw [x_sw_sw] at hC3
        obtain ⟨k0, k1, k2, k3, k4, k5⟩ := x_acb_f hw2 c60 T M
        refine r_aload_n dX11_swap_75 rfl rfl ?_
        refine s_V0V mX11_noteCycle dX11_swap_76 okX11_noteCycle lX11_293 npX11_noteCycle lysX11 rfl (by decide) (by decide) (by decide) (Nat.le_of_ble_eq_true rfl) (Nat.le_of_ble_eq_true rfl) (c_noteCycle (K := K) (sd := sd) hC3 hw (fun j hj => by rw [hfc (124 + 6) (by omega)]; exact hsd j hj) (fun j hj => by have q := hsd2 j (by rw [lo2 0 (by omega)]; exact hj); rw [lo2 (17 + j) (by omega)] at q; exact q) (fun o ho9 => by have q := hK o (by rw [lo2 1 (by omega)]; exact ho9); rw [lo2 (122 + o) (by omega), lo2 (42 + o) (by omega)] at q; exact q) (by rw [← lo2 1 (by omega)]; exact k1) k2 k3 (by rw [hfc 124 (by omega)]; exact h5) (by rw [← lo2 1 (by omega)]; exact x_ct_le _)) (fun s1 hq => ?_)
        obtain ⟨w0, w1, w2, w3, hfd⟩ := hq
        have hZ3 := c_Z_e0 hZ hz hC3 (c_eq_tr he (c_eq_fr hfc (by omega)))
        refine s_throwSW dX11_swap_79 dX11_swap_82 dX11_swap_83 dX11_swap_86 dX11_swap_89 thrX11_296_107 rfl (by decide) (by decide) (by decide) (Nat.le_of_ble_eq_true rfl) ?_
        rw [k4] at w1
        rw [← lo2 1 (by omega), k5] at w2
        exact c_P_e (z := z_cyc z (x_sw (z 0) m p)) 3 (by unfold A_swap A_ch; rw [if_pos c1, em, if_pos hx4, ep, if_neg (by rw [c60]; decide)]) (by decide) rfl (c_Z_cyc hZ3 hz w0 w1 w2 w3 hfd) (s_fr_tr (s_fr_tr hf (s_fr_w hfc (by omega) (by omega))) (s_fr_w hfd (by omega) (by omega)))
    · refine s_throwNW dX11_swap_26 dX11_swap_29 dX11_swap_30 dX11_swap_33 dX11_swap_36 thrN_287 rfl (by decide) (by decide) (by decide) (Nat.le_of_ble_eq_true rfl) ?_
      exact c_P_e 2 (by unfold A_swap; rw [if_pos c1, em, if_neg (fun q => by have q2 := of_decide_eq_true q; simp only [Int32.lt_iff_toInt_lt, Int32.le_iff_toInt_le, i_0, nI_sub (show z 0 (179 + m) < 2 ^ 31 by omega) (show 1 < 2 ^ 31 by decide)] at *; omega)]) (by decide) rfl hZ hf
