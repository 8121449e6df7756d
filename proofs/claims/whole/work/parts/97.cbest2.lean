section
/-! ===== the class: install, best, reoptimize ===== -/
theorem c_R_cg {X : x_T} {s s1 : s_T} {o : Nat} (h : c_R X s o) (hf : ∀ k, o ≤ k → k < o + 41 → s1 k = s k) (hJ : X 0 ≤ 5) : c_R X s1 o := by
  obtain ⟨⟨a1, a2⟩, b, c, d, e, f⟩ := h
  refine ⟨⟨by rw [hf o (by omega) (by omega)]; exact a1, by rw [hf o (by omega) (by omega)]; exact a2⟩, fun j hj => ?_, fun k hk => ?_, fun x y hx hy => ?_, fun m hm => ?_, fun m hm => ?_⟩
  · rw [hf (o + 2 + j) (by omega) (by omega), hf (o + 7) (by omega) (by omega), hf (o + 9 + j) (by omega) (by omega)]; exact b j hj
  · rw [hf (o + 14) (by omega) (by omega), hf (o + 15) (by omega) (by omega), hf (o + 16) (by omega) (by omega), hf (o + 17) (by omega) (by omega), hf (o + 18) (by omega) (by omega)]; exact c k hk
  · rw [hf (o + 20 + x) (by omega) (by omega)]; exact d x y hx hy
  · rw [hf (o + 23) (by omega) (by omega), hf (o + 25 + m) (by omega) (by omega), hf (o + 30 + m) (by omega) (by omega)]; exact e m hm
  · rw [hf (o + 35) (by omega) (by omega), hf (o + 37 + m) (by omega) (by omega)]; exact f m hm
theorem c_Z_of {z : z_T} {X : x_T} {s s1 : s_T} (h : c_Z z s) (hz : z_wf z) (hX : c_R X s1 1) (hQ : c_Q s1) (hp : s1 152 9 = -1 ∧ ∃ hu, hu ≤ 50000 ∧ s1 152 10 = nI hu) (hf : ∀ k, k = 0 ∨ (42 ≤ k ∧ k < 83) ∨ k = 206 ∨ k = 207 ∨ k = 210 ∨ k = 211 ∨ k = 150 ∨ k = 151 → s1 k = s k) (h161 : s1 161 0 = s 161 0) : c_Z (va_up z 0 X) s1 := by
  obtain ⟨a1, a2, a3, a4, a5, a6, a7, a8, a9, a10, a11, a12⟩ := h
  have e1 : va_up z 0 X 1 = z 1 := va_up_n (by decide)
  have e2 : va_up z 0 X 2 = z 2 := va_up_n (by decide)
  have e3 : va_up z 0 X 3 = z 3 := va_up_n (by decide)
  have e4 : va_up z 0 X 4 = z 4 := va_up_n (by decide)
  have e5 : va_up z 0 X 5 = z 5 := va_up_n (by decide)
  unfold c_Z
  rw [e1, e2, e3, e4, e5, hf 0 (by omega), hf 206 (by omega), hf 207 (by omega), hf 210 (by omega), hf 211 (by omega), hf 150 (by omega), hf 151 (by omega), h161]
  exact ⟨by rw [va_up_s]; exact hX, fun q => c_R_cg (a2 q) (fun k h1 h2 => hf k (by omega)) (hz.2.1 q).1.1, a3, hQ, hp, a6, a7, a8, a9, a10, a11, a12⟩
theorem z_up0 {z : z_T} : va_up z 0 (z 0) = z := by
  funext k
  by_cases e : k = 0
  · subst e; exact va_up_s
  · exact va_up_n e
set_option maxRecDepth 20000 in
set_option maxHeartbeats 1000000 in
theorem c_install {G : q_G} {s : s_T} {X : x_T} {o m : Nat} {l : List Nat} (ho : isX7 o) (hC : c_R X s o) (hw : x_wf X) (hm : m < 4) (hl : x_vl (X (179 + m)) l) (hr : ∀ i, i < X (179 + m) → s 148 i = nI (x_so X m (x_gt l i))) : s_W G mX6_install 3 0 0 (c_I (fun y9 s1 => y9 = nI (x_ct (fun p => decide (X (183 + 5 * m + p) ≠ x_so X m (x_gt l p))) (X (179 + m))) ∧ c_R (x_pt X m l) s1 o ∧ s_fr (o + 37 + m) (o + 37 + m + 1) s s1)) 0 (q_ent mX6_install [.ref 147, .ref (o + 34), .int (nI m)]) [] s := by
  show s_W G mX6_install 3 0 0 _ 0 [some (.ref 147), some (.ref (o + 34)), some (.int (nI m)), none, none] [] s
  have hs := x_sz hw
  have h5 := (x_mn hw hm).2
  have ho2 := o7_le ho
  have hO := c_R_O hC
  have lp : ∀ f i, i ≤ X (179 + m) → X (179 + m) < i + f → s_W G mX6_install 3 0 0 (c_I (fun y9 s1 => y9 = nI (x_ct (fun p => decide (X (183 + 5 * m + p) ≠ x_so X m (x_gt l p))) (X (179 + m))) ∧ c_R (x_pt X m l) s1 o ∧ s_fr (o + 37 + m) (o + 37 + m + 1) s s1)) 5 [some (.ref 147), some (.ref (o + 34)), some (.int (nI m)), some (.int (nI (x_ct (fun p => decide (X (183 + 5 * m + p) ≠ x_so X m (x_gt l p))) i))), some (.int (nI i))] [] s := by
    intro f
    induction f with
    | zero =>
      intro i hi hme
      exact absurd hme (by omega)
    | succ f ih =>
      intro i hi hme
      refine r_iload dX6_install_5 rfl ?_
      refine r_aload_n dX6_install_7 rfl rfl ?_
      refine s_getR dX6_install_8 fX6_44 (layX5 (X7_orders ho)) rfl ?_
      refine r_iload_n dX6_install_11 rfl rfl ?_
      refine a_ld dX6_install_12 (X5_sizes (X7_orders ho)) (by omega) (by decide) (co_on hO (by omega)) ?_
      refine n_cge (tgt := 44) dX6_install_13 (by decide) (by omega) (by omega) (fun c13 => ?_) (fun c13 => ?_)
      · refine r_aload_n dX6_install_44 rfl rfl ?_
        refine s_getR dX6_install_45 fX6_9 lysX6 rfl ?_
        refine r_aload_n dX6_install_48 rfl rfl ?_
        refine s_getR dX6_install_49 fX6_38 (layX5 (X7_orders ho)) rfl ?_
        refine r_iload_n dX6_install_52 rfl rfl ?_
        refine a_ald dX6_install_53 (X5_rows (X7_orders ho)) (by omega) (by decide) ?_
        refine s_N2V mX11_copyRow dX6_install_54 okX11_copyRow lX6_47 npX11_copyRow (by decide) (by decide) (by decide) (Nat.le_of_ble_eq_true rfl) (Nat.le_of_ble_eq_true rfl) (c_copyRow rfl (X5_rows_row (X7_orders ho) hm) (by decide)) (fun s1 hq => ?_)
        obtain ⟨hcp, hfc⟩ := hq
        refine r_iload_n dX6_install_57 rfl rfl ?_
        refine s_iret dX6_install_58 rfl rfl ?_
        have e9 : i = X (179 + m) := by omega
        subst e9
        refine ⟨_, rfl, rfl, ?_, hfc⟩
        refine c_R_rw2 hC hw hm (x_pt_pr hw hm hl) (fun k h1 h2 h3 => hfc k (by omega)) (fun i hi => ?_)
        rw [x_pt_i hi]
        have q9 := hcp i (by omega)
        rw [hr i hi] at q9
        exact q9
      · have hod := x_od hw hm c13
        have hso := x_so_ok hw hm (hl.2.1 i c13)
        have hod1 := hod.1
        have hso1 := hso.1
        refine r_aload_n dX6_install_16 rfl rfl ?_
        refine s_getR dX6_install_17 fX6_38 (layX5 (X7_orders ho)) rfl ?_
        refine r_iload_n dX6_install_20 rfl rfl ?_
        refine a_ald dX6_install_21 (X5_rows (X7_orders ho)) (by omega) (by decide) ?_
        refine r_iload dX6_install_22 rfl ?_
        refine a_ld dX6_install_24 (X5_rows_row (X7_orders ho) (by omega)) (by omega) (by decide) (co_ord hO (by omega) (by omega)) ?_
        refine r_aload_n dX6_install_25 rfl rfl ?_
        refine s_getR dX6_install_26 fX6_9 lysX6 rfl ?_
        refine r_iload dX6_install_29 rfl ?_
        refine a_ld dX6_install_31 rfl (by omega) (by decide) (hr i c13) ?_
        refine n_ceq (tgt := 38) dX6_install_32 (by decide) (by omega) (by omega) (fun c32 => ?_) (fun c32 => ?_)
        · refine n_inc dX6_install_38 rfl (n_i1 _) (by decide) rfl ?_
          refine r_goto (tgt := 5) dX6_install_41 (by decide) ?_
          first
            | (have q9 := ih (i + 1) (by omega) (by omega)
               rw [x_ct_f (fun z => (of_decide_eq_true z) c32)] at q9
               exact q9)
            | (have q9 := ih (i + 1) (by omega) (by omega)
               rw [x_ct_t (decide_eq_true c32)] at q9
               exact q9)
        · refine n_inc dX6_install_35 rfl (n_i1 _) (by decide) rfl ?_
          refine n_inc dX6_install_38 rfl (n_i1 _) (by decide) rfl ?_
          refine r_goto (tgt := 5) dX6_install_41 (by decide) ?_
          first
            | (have q9 := ih (i + 1) (by omega) (by omega)
               rw [x_ct_f (fun z => (of_decide_eq_true z) c32)] at q9
               exact q9)
            | (have q9 := ih (i + 1) (by omega) (by omega)
               rw [x_ct_t (decide_eq_true c32)] at q9
               exact q9)
  refine n_const 0 dX6_install_0 (by decide) ?_
  refine r_istore_n dX6_install_1 rfl (by decide) rfl ?_
  refine n_const 0 dX6_install_2 (by decide) ?_
  refine r_istore dX6_install_3 (by decide) rfl ?_
  exact lp (X (179 + m) + 1) 0 (by omega) (by omega)
noncomputable def A_best (z : z_T) (m : Int32) : a_T := if iLt m 4 = true then (0, nI (x_bv (z 0) n0 (iN m)), z) else (1, 0, z)
noncomputable def A_reoptimize (z : z_T) (m : Int32) : a_T := if iLt m 4 = true then (0, nI (x_bc2 (z 0) n0 (iN m)), va_up z 0 (x_bX (z 0) n0 (iN m))) else (1, 0, z)
theorem n0_up {m : Nat} : va_up n0 m false = n0 := by
  funext k
  by_cases e : k = m
  · subst e; exact va_up_s
  · exact va_up_n e
theorem x_gd_op {X : x_T} (hg : x_gd X) (m : Nat) : x_ac X (va_up n0 m true) := x_ac_mono hg.2 (fun k hk => by cases hk)
theorem x_bX_gd {X : x_T} (hg : x_gd X) {m : Nat} (hm : m < 4) : x_gd (x_bX X n0 m) := by
  have q := x_b_ok (op := n0) hg.1 hm rfl (x_gd_op hg m)
  exact ⟨q.2.2.1, q.2.2.2.1⟩
set_option maxRecDepth 20000 in
set_option maxHeartbeats 1000000 in
theorem c_best {G : q_G} {s : s_T} {z : z_T} (hz : z_wf z) (hZ : c_Z z s) {m : Int32} : s_W G mX11_best 8 2 12 (c_P [q_IO] (A_best z m) s) 0 (q_ent mX11_best [.ref 0, .int m]) [] s := by
  show s_W G mX11_best 8 2 12 _ 0 [some (.ref 0), some (.int m)] [] s
  have hw := hz.1.1
  have hs := x_sz hw
  have hC := hZ.1
  have hf : s_fr 0 212 s s := s_fr_rf
  have ho : isX7 1 := Or.inl rfl
  have hQ := c_Z_Q hZ
  refine r_iload_n dX11_best_0 rfl rfl ?_
  refine s_S1X mX11_requireMachine dX11_best_1 okX11_requireMachine lX11_116 npX11_requireMachine (by decide) (by decide) (by decide) (Nat.le_of_ble_eq_true rfl) (Nat.le_of_ble_eq_true rfl) c_requireMachine (fun v s1 hq => ?_) (fun E s1 hq => by obtain ⟨rfl, c9, rfl⟩ := c_rq_f hq; exact x_out rfl (s_end (c_P_e 1 (by unfold A_best; simp [*]) (by decide) rfl hZ hf)))
  obtain ⟨rfl, c1, rfl⟩ := c_rq_t hq
  obtain ⟨m, rfl, hm, hm2⟩ := iLt_n c1
  have em := iN_n hm2
  refine r_aload_n dX11_best_4 rfl rfl ?_
  refine s_getR dX11_best_5 fX11_49 lysX11 rfl ?_
  refine r_aload_n dX11_best_8 rfl rfl ?_
  refine s_getR dX11_best_9 fX11_10 lysX11 rfl ?_
  refine r_aload_n dX11_best_12 rfl rfl ?_
  refine s_getR dX11_best_13 fX11_29 lysX11 rfl ?_
  refine r_iload_n dX11_best_16 rfl rfl ?_
  refine s_V3V mX6_explore dX11_best_17 okX6_explore lX11_310 npX6_explore lysX6 rfl (by decide) (by decide) (by decide) (Nat.le_of_ble_eq_true rfl) (Nat.le_of_ble_eq_true rfl) (c_explore (op := n0) ho isX10_132 hC hw hm (c_Q_h hQ (Or.inr (Or.inl rfl))).1 (c_Q_h hQ (Or.inr (Or.inl rfl))).2 (Or.inl rfl) (x_gd_op (z_gd hz) m)) (fun s1 hq => ?_)
  rw [n0_up] at hq
  obtain ⟨e1, e2, hC1, e5, e9, e10, hfe⟩ := hq
  have hQ1 : c_Q s1 := fun h hh => by
    rcases hh with rfl | rfl | rfl
    · rw [hfe (124 + 5) (by omega) (by omega) (by omega) (by omega) (by omega), hfe 124 (by omega) (by omega) (by omega) (by omega) (by omega)]; exact hQ 124 (Or.inl rfl)
    · rw [e9, e10]; exact ⟨e5, (hQ 132 (Or.inr (Or.inl rfl))).2⟩
    · rw [hfe (162 + 5) (by omega) (by omega) (by omega) (by omega) (by omega), hfe 162 (by omega) (by omega) (by omega) (by omega) (by omega)]; exact hQ 162 (Or.inr (Or.inr rfl))
  have hZ1 : c_Z z s1 := by
    have q := c_Z_of hZ hz hC1 hQ1 (by rw [hfe 152 (by omega) (by omega) (by omega) (by omega) (by omega)]; exact hZ.2.2.2.2.1) (fun k hk => hfe k (by omega) (by omega) (by omega) (by omega) (by omega)) (by rw [hfe 161 (by omega) (by omega) (by omega) (by omega) (by omega)])
    rw [z_up0] at q
    exact q
  replace hf := s_fr_tr hf (show s_fr 0 212 _ s1 from fun k hk => hfe k (by omega) (by omega) (by omega) (by omega) (by omega))
  replace hZ := hZ1
  refine r_aload_n dX11_best_20 rfl rfl ?_
  refine s_getR dX11_best_21 fX11_49 lysX11 rfl ?_
  refine s_getI dX11_best_24 fX11_314 lysX6 rfl e1 ?_
  refine s_iret dX11_best_27 rfl rfl ?_
  first
    | exact c_P_s (by unfold A_best; simp [*]) hZ hf
    | exact c_P_n (by unfold A_best; simp [*]) hZ hf
set_option maxRecDepth 20000 in
set_option maxHeartbeats 1000000 in
theorem c_reoptimize {G : q_G} {s : s_T} {z : z_T} (hz : z_wf z) (hZ : c_Z z s) {m : Int32} : s_W G mX11_reoptimize 8 2 12 (c_P [q_IO] (A_reoptimize z m) s) 0 (q_ent mX11_reoptimize [.ref 0, .int m]) [] s := by
  show s_W G mX11_reoptimize 8 2 12 _ 0 [some (.ref 0), some (.int m)] [] s
  have hw := hz.1.1
  have hs := x_sz hw
  have hC := hZ.1
  have hf : s_fr 0 212 s s := s_fr_rf
  have ho : isX7 1 := Or.inl rfl
  have hQ := c_Z_Q hZ
  refine r_iload_n dX11_reoptimize_0 rfl rfl ?_
  refine s_S1X mX11_requireMachine dX11_reoptimize_1 okX11_requireMachine lX11_116 npX11_requireMachine (by decide) (by decide) (by decide) (Nat.le_of_ble_eq_true rfl) (Nat.le_of_ble_eq_true rfl) c_requireMachine (fun v s1 hq => ?_) (fun E s1 hq => by obtain ⟨rfl, c9, rfl⟩ := c_rq_f hq; exact x_out rfl (s_end (c_P_e 1 (by unfold A_reoptimize; simp [*]) (by decide) rfl hZ hf)))
  obtain ⟨rfl, c1, rfl⟩ := c_rq_t hq
  obtain ⟨m, rfl, hm, hm2⟩ := iLt_n c1
  have em := iN_n hm2
  refine r_aload_n dX11_reoptimize_4 rfl rfl ?_
  refine s_getR dX11_reoptimize_5 fX11_49 lysX11 rfl ?_
  refine r_aload_n dX11_reoptimize_8 rfl rfl ?_
  refine s_getR dX11_reoptimize_9 fX11_10 lysX11 rfl ?_
  refine r_aload_n dX11_reoptimize_12 rfl rfl ?_
  refine s_getR dX11_reoptimize_13 fX11_29 lysX11 rfl ?_
  refine r_iload_n dX11_reoptimize_16 rfl rfl ?_
  refine s_V3V mX6_explore dX11_reoptimize_17 okX6_explore lX11_310 npX6_explore lysX6 rfl (by decide) (by decide) (by decide) (Nat.le_of_ble_eq_true rfl) (Nat.le_of_ble_eq_true rfl) (c_explore (op := n0) ho isX10_132 hC hw hm (c_Q_h hQ (Or.inr (Or.inl rfl))).1 (c_Q_h hQ (Or.inr (Or.inl rfl))).2 (Or.inl rfl) (x_gd_op (z_gd hz) m)) (fun s1 hq => ?_)
  rw [n0_up] at hq
  obtain ⟨e1, e2, hC1, e5, e9, e10, hfe⟩ := hq
  have hQ1 : c_Q s1 := fun h hh => by
    rcases hh with rfl | rfl | rfl
    · rw [hfe (124 + 5) (by omega) (by omega) (by omega) (by omega) (by omega), hfe 124 (by omega) (by omega) (by omega) (by omega) (by omega)]; exact hQ 124 (Or.inl rfl)
    · rw [e9, e10]; exact ⟨e5, (hQ 132 (Or.inr (Or.inl rfl))).2⟩
    · rw [hfe (162 + 5) (by omega) (by omega) (by omega) (by omega) (by omega), hfe 162 (by omega) (by omega) (by omega) (by omega) (by omega)]; exact hQ 162 (Or.inr (Or.inr rfl))
  have hZ1 : c_Z z s1 := by
    have q := c_Z_of hZ hz hC1 hQ1 (by rw [hfe 152 (by omega) (by omega) (by omega) (by omega) (by omega)]; exact hZ.2.2.2.2.1) (fun k hk => hfe k (by omega) (by omega) (by omega) (by omega) (by omega)) (by rw [hfe 161 (by omega) (by omega) (by omega) (by omega) (by omega)])
    rw [z_up0] at q
    exact q
  replace hf := s_fr_tr hf (show s_fr 0 212 _ s1 from fun k hk => hfe k (by omega) (by omega) (by omega) (by omega) (by omega))
  replace hZ := hZ1
  refine r_aload_n dX11_reoptimize_20 rfl rfl ?_
  refine s_getR dX11_reoptimize_21 fX11_49 lysX11 rfl ?_
  refine r_aload_n dX11_reoptimize_24 rfl rfl ?_
  refine s_getR dX11_reoptimize_25 fX11_10 lysX11 rfl ?_
  refine s_getR dX11_reoptimize_28 fX11_196 (layX7 isX7_1) rfl ?_
  refine r_iload_n dX11_reoptimize_31 rfl rfl ?_
  refine s_V2I mX6_install dX11_reoptimize_32 okX6_install lX11_317 npX6_install lysX6 rfl (by decide) (by decide) (by decide) (Nat.le_of_ble_eq_true rfl) (Nat.le_of_ble_eq_true rfl) (c_install (o := 1) ho hC1 hw hm (x_b_ok (op := n0) hw hm rfl (x_gd_op (z_gd hz) m)).2.1 e2) (fun x s1 hq => ?_)
  obtain ⟨rfl, hX, hf2⟩ := hq
  replace hZ := c_Z_eq hZ hX (c_eq_fr hf2 (by omega)) (z_J hz)
  replace hf := s_fr_tr hf (s_fr_w hf2 (by omega) (by omega))
  refine s_iret dX11_reoptimize_35 rfl rfl ?_
  exact c_P_n (by unfold A_reoptimize; rw [if_pos (by assumption), em]; rfl) hZ hf
end
