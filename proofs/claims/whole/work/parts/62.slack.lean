/-! ===== slack ===== -/
noncomputable def x_sh (X : x_T) (k u : Nat) : Nat := x_mxe (fun q => x_ti X n0 (some k) u q + X (82 + q)) (X 1)
theorem x_sh_0 {X : x_T} (hg : x_gd X) {k : Nat} (hk : k < X 1) : x_sh X k (x_t0 X k) = x_s0 X := by
  obtain ⟨K, rk, T, M, hA, -⟩ := x_tb_ok (hk := none) (hu := 0) hg.1 hg.2
  have T2 : x_TT X n0 (some k) (x_t0 X k) K (x_r0 X) (x_t0 X) rk := fun o ho hK => by
    obtain ⟨a, b, c, d⟩ := T o ho hK
    refine ⟨a, b, c, ?_⟩
    by_cases e : o = k
    · subst e
      have h1 := (x_t0_bd hg ho).2.2
      unfold x_sv at d ⊢
      rw [if_neg (fun q => by cases q)] at d
      rw [if_pos rfl, Nat.max_eq_right h1]
      have h2 : x_t0 X o = x_fr X (X (62 + o)) (X (82 + o)) (x_r0 X o) := d
      rw [h2, x_fr_fr]
    · have d : x_t0 X o = x_sv X none 0 (x_r0 X o) o := d
      rw [d]
      unfold x_sv
      rw [if_neg (fun q => by cases q), if_neg (fun q => e (Option.some.inj q).symm)]
  unfold x_sh x_s0
  exact x_mxe_congr _ (fun q hq => by rw [← (x_tb_eq hg.1 hg.2 T2 M q hq).2.2])
theorem x_sh_mono {X : x_T} (hg : x_gd X) {k u u' : Nat} (h : u ≤ u') : x_sh X k u ≤ x_sh X k u' := by
  obtain ⟨K, rk, T, M, hA, -⟩ := x_tb_ok (hk := some k) (hu := u) hg.1 hg.2
  obtain ⟨K', rk', T', M', hA', -⟩ := x_tb_ok (hk := some k) (hu := u') hg.1 hg.2
  refine x_mxe_mono _ (fun q hq => ?_)
  have := (x_TT_le hg.1 T T' (fun _ z => z) (fun o e => ⟨e, h⟩) (rk q + 1) q hq (by omega) (hA q hq) (hA' q hq)).2
  omega
theorem x_sh_bd {X : x_T} (hg : x_gd X) {k u : Nat} : x_sh X k u ≤ 1400 + u := x_mxe_le _ (fun q hq => (x_ti_bd hg.1 hg.2 hq).2.1)
def x_sd (f : Nat → Nat) (b : Nat) : Nat → Nat
  | 0 => 0
  | n + 1 => if f (n + 1) = b then n + 1 else x_sd f b n
theorem x_sd_eq {f : Nat → Nat} {b c : Nat} (h1 : f c = b) : ∀ n, c ≤ n → (∀ e, c < e → e ≤ n → f e ≠ b) → x_sd f b n = c
  | 0, h, _ => by unfold x_sd; omega
  | n + 1, h, h2 => by
    unfold x_sd
    by_cases e : c = n + 1
    · rw [← e, if_pos h1]
    · rw [if_neg (h2 (n + 1) (by omega) (by omega))]
      exact x_sd_eq h1 n (by omega) (fun e q1 q2 => h2 e q1 (by omega))
noncomputable def A_slack (z : z_T) (k : Int32) : a_T := if iLt k (z 0 1) = true then (0, nI (x_sd (fun d => x_sh (z 0) (iN k) (x_t0 (z 0) (iN k) + d)) (x_s0 (z 0)) 60), z) else (1, 0, z)
set_option maxRecDepth 20000 in
set_option maxHeartbeats 1000000 in
theorem c_computeHolding {G : q_G} {s : s_T} {X : x_T} {o h k u : Nat} (ho : isX7 o) (hh : isX10 h) (hC : c_R X s o) (hg : x_gd X) (hop : ∀ m, m < 4 → s (h + 5) m = bI false) (hk : k < X 1) (hu : u ≤ 50000) : s_W G mX10_computeHolding 4 0 0 (c_V (fun s1 => s1 h 6 = nI (x_sh X k u) ∧ s1 (h + 5) = s (h + 5) ∧ s1 h 9 = -1 ∧ s1 h 10 = nI u ∧ s_fr h (h + 8) s s1)) 0 (q_ent mX10_computeHolding [.ref h, .ref o, .int (nI k), .int (nI u)]) [] s := by
  show s_W G mX10_computeHolding 4 0 0 _ 0 [some (.ref h), some (.ref o), some (.int (nI k)), some (.int (nI u))] [] s
  have hz := x_sz hg.1
  have ho2 := o7_le ho
  have hh3 := o10_le hh
  refine r_aload_n dX10_computeHolding_0 rfl rfl ?_
  refine r_iload_n dX10_computeHolding_1 rfl rfl ?_
  refine a_put dX10_computeHolding_2 gX10_34 (layX10 hh) rfl rfl rfl (fun s1 hs1 hf1 => ?_)
  refine r_aload_n dX10_computeHolding_5 rfl rfl ?_
  refine r_iload_n dX10_computeHolding_6 rfl rfl ?_
  refine a_put dX10_computeHolding_7 gX10_67 (layX10 hh) rfl rfl rfl (fun s2 hs2 hf2 => ?_)
  have hC2 := c_R_fr (c_R_fr hC hf1 (Or.inl (by omega)) hz.1) hf2 (Or.inl (by omega)) hz.1
  refine r_aload_n dX10_computeHolding_10 rfl rfl ?_
  refine r_aload_n dX10_computeHolding_11 rfl rfl ?_
  refine s_V1I mX10_compute dX10_computeHolding_12 okX10_compute lX10_70 npX10_compute (layX10 hh) rfl (by decide) (by decide) (by decide) (Nat.le_of_ble_eq_true rfl) (Nat.le_of_ble_eq_true rfl) (c_compute (op := n0) (hk := some k) (hu := u) ho hh hC2 hg.1 (fun m hm => by rw [hf2 (h + 5) (by omega), hf1 (h + 5) (by omega)]; exact hop m hm) ⟨by rw [hs2, pk_un (by decide), hs1]; exact pk_us, by rw [hs2]; exact pk_us⟩ hu (fun q e => by cases e; omega)) (fun x s3 hq => ?_)
  obtain ⟨K, r, t, rk, sd, rfl, M, hT, T, -, -, h6, -, -, -, h5, h9, h10, hf3⟩ := hq
  refine r_pop dX10_computeHolding_15 rfl ?_
  refine r_aload_n dX10_computeHolding_16 rfl rfl ?_
  refine r_iconst (v := -1) dX10_computeHolding_17 (by decide) ?_
  refine a_put dX10_computeHolding_18 gX10_34 (layX10 hh) rfl rfl rfl (fun s4 hs4 hf4 => ?_)
  refine s_vret dX10_computeHolding_21 rfl ?_
  refine ⟨rfl, ?_, ?_, ?_, ?_, ?_⟩
  · rw [hs4, pk_un (by decide), h6]
    have q := x_tb_eq hg.1 hg.2 T M
    rw [x_ke_all (fun k hk => (q k hk).1)]
    congr 1
    exact x_mxe_congr _ (fun k hk => by rw [(q k hk).2.2])
  · rw [hf4 (h + 5) (by omega), h5, hf2 (h + 5) (by omega), hf1 (h + 5) (by omega)]
  · rw [hs4]; exact pk_us
  · rw [hs4, pk_un (by decide), h10, hs2]; exact pk_us
  · exact s_fr_tr (s_fr_tr (s_fr_tr (s_fr_w hf1 (by omega) (by omega)) (s_fr_w hf2 (by omega) (by omega))) hf3) (s_fr_w hf4 (by omega) (by omega))
theorem c_Z_hold {z : z_T} {s s1 : s_T} {u : Nat} (h : c_Z z s) (hz : z_wf z) (h5 : s1 137 = s 137) (h9 : s1 132 9 = -1) (h10 : s1 132 10 = nI u) (hu : u ≤ 50000) (hf : s_fr 132 140 s s1) : c_Z z s1 := by
  obtain ⟨a1, a2, a3, a4, a5, a6, a7, a8, a9, a10, a11, a12⟩ := h
  refine ⟨c_R_fr a1 hf (Or.inl (by omega)) (x_sz hz.1.1).1, fun q => c_R_fr (a2 q) hf (Or.inl (by omega)) (z_J hz q), ?_, ?_, ?_, ?_, ?_, ?_, ?_, ?_, ?_, ?_⟩
  · rw [hf 0 (by omega)]; exact a3
  · intro q hq
    by_cases e : q = 132
    · subst e
      exact ⟨by rw [h5]; exact (a4 132 (by omega)).1, h9, u, hu, h10⟩
    · rw [hf (q + 5) (by omega), hf q (by omega)]; exact a4 q hq
  · rw [hf 152 (by omega)]; exact a5
  · rw [hf 206 (by omega)]; exact a6
  · intro k hk; rw [hf 207 (by omega)]; exact a7 k hk
  · rw [hf 210 (by omega)]; exact a8
  · intro k hk; rw [hf 211 (by omega)]; exact a9 k hk
  · rw [hf 150 (by omega)]; exact a10
  · intro hk k hk2; rw [hf 151 (by omega)]; exact a11 hk k hk2
  · rw [hf 161 (by omega)]; exact a12
set_option maxRecDepth 20000 in
set_option maxHeartbeats 1000000 in
theorem c_slack {G : q_G} {s : s_T} {z : z_T} (hz : z_wf z) (hZ : c_Z z s) {k : Int32} : s_W G mX11_slack 8 2 12 (c_P [q_IO] (A_slack z k) s) 0 (q_ent mX11_slack [.ref 0, .int k]) [] s := by
  show s_W G mX11_slack 8 2 12 _ 0 [some (.ref 0), some (.int k), none, none, none] [] s
  have hw := hz.1.1
  have hs := x_sz hw
  have hC := hZ.1
  have hf : s_fr 0 212 s s := s_fr_rf
  have ho : isX7 1 := Or.inl rfl
  obtain ⟨s9, hs9⟩ : ∃ s9, s9 = s := ⟨_, rfl⟩
  have hf : s_fr 0 212 s9 s := by rw [hs9]; exact s_fr_rf
  rw [show c_P [q_IO] (A_slack z k) s = c_P [q_IO] (A_slack z k) s9 by rw [hs9]]
  clear hs9
  generalize hP : c_P [q_IO] (A_slack z k) s9 = PP
  refine r_aload_n dX11_slack_0 rfl rfl ?_
  refine r_iload_n dX11_slack_1 rfl rfl ?_
  refine s_V1X mX11_requireOperation dX11_slack_2 okX11_requireOperation lX11_151 npX11_requireOperation lysX11 rfl (by decide) (by decide) (by decide) (Nat.le_of_ble_eq_true rfl) (Nat.le_of_ble_eq_true rfl) (c_requireOperation hC hw) (fun v s1 hq => ?_) (fun E s1 hq => by obtain ⟨rfl, c9, rfl⟩ := c_rq_f hq; rw [← hP]; exact x_out rfl (s_end (c_P_e 1 (by unfold A_slack; simp [*]) (by decide) rfl hZ hf)))
  obtain ⟨e1, c2, rfl⟩ := c_rq_t hq
  subst e1
  obtain ⟨k, rfl, hk, hk2⟩ := iLt_n c2
  have ek := iN_n hk2
  refine r_aload_n dX11_slack_5 rfl rfl ?_
  refine s_V0I mX11_presentSpan dX11_slack_6 okX11_presentSpan lX11_234 npX11_presentSpan lysX11 rfl (by decide) (by decide) (by decide) (Nat.le_of_ble_eq_true rfl) (Nat.le_of_ble_eq_true rfl) (c_presentSpan hz hZ) (fun x s1 hq => ?_)
  obtain ⟨rfl, ht, hC1, hZ1, hf1⟩ := hq
  replace hC := hC1
  replace hZ := hZ1
  replace hf := s_fr_tr hf hf1
  refine r_istore_n dX11_slack_9 rfl (by decide) rfl ?_
  refine r_aload_n dX11_slack_10 rfl rfl ?_
  refine s_getR dX11_slack_11 fX11_25 lysX11 rfl ?_
  refine s_getR dX11_slack_14 fX11_228 (layX10 isX10_124) rfl ?_
  refine r_iload_n dX11_slack_17 rfl rfl ?_
  refine a_ld dX11_slack_18 (X10_start isX10_124) (by omega) (by decide) (ht _ hk).2.1 ?_
  refine r_istore_n dX11_slack_19 rfl (by decide) rfl ?_
  refine n_const 1 dX11_slack_20 (by decide) ?_
  refine r_istore dX11_slack_21 (by decide) rfl ?_
  have hg := z_gd hz
  have htb := x_t0_bd hg hk
  have hsb0 := x_s0_bd hg
  have lp : ∀ f d s1, c_Z z s1 → s_fr 0 212 s9 s1 → 1 ≤ d → d ≤ 61 → (∀ e, e < d → x_sh (z 0) k (x_t0 (z 0) k + e) = x_s0 (z 0)) → 61 < d + f → s_W G mX11_slack 8 (2 - 1 - 0) (12 - 6 - 0) (PP) 23 [some (.ref 0), some (.int (nI k)), some (.int (nI (x_s0 (z 0)))), some (.int (nI (x_t0 (z 0) k))), some (.int (nI d))] [] s1 := by
    intro f
    induction f with
    | zero =>
      intro d s1 hZ hf hd hd2 hall hme
      exact absurd hme (by omega)
    | succ f ih =>
      intro d s1 hZ hf hd hd2 hall hme
      have hC := hZ.1
      have hsb := x_sh_bd hg (k := k) (u := x_t0 (z 0) k + d)
      refine r_iload dX11_slack_23 rfl ?_
      refine n_bip 60 dX11_slack_25 (by decide) ?_
      refine n_cgt (tgt := 68) dX11_slack_27 (by decide) (by omega) (by omega) (fun c27 => ?_) (fun c27 => ?_)
      · refine n_bip 60 dX11_slack_68 (by decide) ?_
        refine s_iret dX11_slack_70 rfl rfl ?_
        rw [← hP]
        first
          | exact c_P_s (by unfold A_slack; rw [if_pos c2, ek, x_sd_eq (c := 60) (hall _ (by omega)) _ (by omega) (fun e q1 q2 => absurd q2 (by omega))]) hZ hf
      · refine r_aload_n dX11_slack_30 rfl rfl ?_
        refine s_getR dX11_slack_31 fX11_29 lysX11 rfl ?_
        refine r_aload_n dX11_slack_34 rfl rfl ?_
        refine s_getR dX11_slack_35 fX11_10 lysX11 rfl ?_
        refine r_iload_n dX11_slack_38 rfl rfl ?_
        refine r_iload_n dX11_slack_39 rfl rfl ?_
        refine r_iload dX11_slack_40 rfl ?_
        refine n_add dX11_slack_42 ?_
        refine s_V3V mX10_computeHolding dX11_slack_43 okX10_computeHolding lX11_238 npX10_computeHolding (layX10 isX10_132) rfl (by decide) (by decide) (by decide) (Nat.le_of_ble_eq_true rfl) (Nat.le_of_ble_eq_true rfl) (c_computeHolding ho isX10_132 hC hg (c_Q_h (c_Z_Q hZ) (Or.inr (Or.inl rfl))).1 hk (by omega)) (fun s1 hq => ?_)
        obtain ⟨h6, h5, h9, h10, hf1⟩ := hq
        replace hZ := c_Z_hold hZ hz h5 h9 h10 (by omega) hf1
        replace hf := s_fr_tr hf (s_fr_w hf1 (by omega) (by omega))
        refine r_aload_n dX11_slack_46 rfl rfl ?_
        refine s_getR dX11_slack_47 fX11_29 lysX11 rfl ?_
        refine s_getI dX11_slack_50 fX11_242 (layX10 isX10_132) rfl h6 ?_
        refine r_iload_n dX11_slack_53 rfl rfl ?_
        refine n_ceq (tgt := 62) dX11_slack_54 (by decide) (by omega) (by omega) (fun c54 => ?_) (fun c54 => ?_)
        · refine n_inc dX11_slack_62 rfl (n_i1 _) (by decide) rfl ?_
          refine r_goto (tgt := 23) dX11_slack_65 (by decide) ?_
          refine ih (d + 1) _ hZ hf (by omega) (by omega) (fun e q => ?_) (by omega)
          by_cases e9 : e = d
          · subst e9; exact c54
          · exact hall e (by omega)
        · refine r_iload dX11_slack_57 rfl ?_
          refine n_const 1 dX11_slack_59 (by decide) ?_
          refine n_sub dX11_slack_60 (by omega) ?_
          refine s_iret dX11_slack_61 rfl rfl ?_
          rw [← hP]
          first
            | exact c_P_s (by unfold A_slack; rw [if_pos c2, ek, x_sd_eq (c := d - 1) (hall _ (by omega)) _ (by omega) (fun e q1 q2 q3 => by have q4 := x_sh_mono hg (k := k) (u := x_t0 (z 0) k + d) (u' := x_t0 (z 0) k + e) (by omega); have q5 := x_sh_mono hg (k := k) (u := x_t0 (z 0) k) (u' := x_t0 (z 0) k + d) (by omega); rw [x_sh_0 hg hk] at q5; omega)]) hZ hf
  exact lp 61 1 _ hZ hf (by omega) (by omega) (fun e q => by rw [show e = 0 by omega, Nat.add_zero]; exact x_sh_0 hg hk) (by omega)
