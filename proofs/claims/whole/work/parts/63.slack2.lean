/-! ===== slack of the reference ===== -/
def m_eq2 (s s1 : s_T) : Prop := (∀ k, (214 ≤ k ∧ k < 218) ∨ k = 220 ∨ k = 225 → s1 k = s k) ∧ (∀ j, j = 2 ∨ j = 5 ∨ j = 7 ∨ j = 9 ∨ j = 10 → s1 212 j = s 212 j)
theorem m_eq2_tr {s s1 s2 : s_T} (h1 : m_eq2 s s1) (h2 : m_eq2 s1 s2) : m_eq2 s s2 := ⟨fun k hk => (h2.1 k hk).trans (h1.1 k hk), fun j hj => (h2.2 j hj).trans (h1.2 j hj)⟩
theorem m_eq2_rf {s : s_T} : m_eq2 s s := ⟨fun _ _ => rfl, fun _ _ => rfl⟩
theorem m_eq2_fr {lo hi : Nat} {s s1 : s_T} (h : s_fr lo hi s s1) (hb : (213 ≤ lo ∧ hi ≤ 214) ∨ (218 ≤ lo ∧ hi ≤ 220) ∨ (221 ≤ lo ∧ hi ≤ 225) ∨ 226 ≤ lo) : m_eq2 s s1 := ⟨fun k hk => h k (by omega), fun j _ => by rw [h 212 (by omega)]⟩
theorem m_eq2_put {s s1 : s_T} {j : Nat} {v : Int32} (h : s1 212 = upd (s 212) j v) (hf : s_fr 212 (212 + 1) s s1) (hj : j ≠ 2 ∧ j ≠ 5 ∧ j ≠ 7 ∧ j ≠ 9 ∧ j ≠ 10) : m_eq2 s s1 := ⟨fun k hk => hf k (by omega), fun q hq => by rw [h, pk_un (by omega)]⟩
theorem m_O_eq2 {z : z_T} {s s1 : s_T} (h : m_O z s) (e : m_eq2 s s1) (hH : ∃ hu, hu ≤ 50000 ∧ m_H none hu s1) : m_O z s1 := by
  obtain ⟨a1, a2, a3, a4, a5, a6, a7, a8, a9, a10, a11, a12⟩ := h
  obtain ⟨e1, e2⟩ := e
  unfold m_O m_op
  rw [e1 214 (by omega), e1 215 (by omega), e1 216 (by omega), e1 217 (by omega), e1 220 (by omega), e1 225 (by omega), e2 2 (by omega), e2 5 (by omega), e2 7 (by omega), e2 9 (by omega), e2 10 (by omega)]
  exact ⟨a1, a2, a3, a4, a5, a6, a7, a8, a9, a10, hH, a12⟩
theorem m_op_eq2 {s s1 : s_T} (h : m_op n0 s) (e : m_eq2 s s1) : m_op n0 s1 := fun m hm => by rw [e.1 220 (by omega)]; exact h m hm
set_option maxRecDepth 20000 in
set_option maxHeartbeats 1000000 in
theorem m_slack {G : q_G} {s : s_T} {z : z_T} (hz : z_wf z) (hM : m_R (z 0) s) (hO : m_O z s) {k : Int32} : s_W G mX12_slack 8 0 0 (m_P (A_slack z k) s) 0 (q_ent mX12_slack [.ref 212, .int k]) [] s := by
  show s_W G mX12_slack 8 0 0 _ 0 [some (.ref 212), some (.int k), none, none, none, none] [] s
  have hw := hz.1.1
  have hs := x_sz hw
  have hf : s_fr 212 234 s s := s_fr_rf
  obtain ⟨s9, hs9⟩ : ∃ s9, s9 = s := ⟨_, rfl⟩
  have hf : s_fr 212 234 s9 s := by rw [hs9]; exact s_fr_rf
  rw [show m_P (A_slack z k) s = m_P (A_slack z k) s9 by rw [hs9]]
  clear hs9
  generalize hP : m_P (A_slack z k) s9 = PP
  refine r_aload_n dX12_slack_0 rfl rfl ?_
  refine r_aload_n dX12_slack_1 rfl rfl ?_
  refine r_iload_n dX12_slack_2 rfl rfl ?_
  refine s_V1I mX12_isOperation dX12_slack_3 okX12_isOperation lX12_135 npX12_isOperation lysX12 rfl (by decide) (by decide) (by decide) (Nat.le_of_ble_eq_true rfl) (Nat.le_of_ble_eq_true rfl) (c_mIsOperation hM hw) (fun x s1 hq => ?_)
  obtain ⟨rfl, rfl⟩ := hq
  refine b_ifeq (tgt := 13) dX12_slack_6 (by decide) (fun c6 => ?_) (fun c6 => ?_)
  · refine n_const 1 dX12_slack_13 (by decide) ?_
    refine a_put dX12_slack_14 gX12_79 lysX12 rfl rfl rfl (fun s1 hs1 hf1 => ?_)
    have h3 := (congrFun hs1 3).trans pk_us
    have hM := m_R_fr hM hf1 (Or.inr (by omega))
    have hO := m_O_eq hO (m_eq_put hs1 hf1 (by decide))
    have hf := s_fr_tr hf (s_fr_w (lo' := 212) (hi' := 234) hf1 (by omega) (by omega))
    refine r_aload_n dX12_slack_17 rfl rfl ?_
    refine s_getI dX12_slack_18 fX12_79 lysX12 rfl h3 ?_
    refine n_ifle (tgt := 26) dX12_slack_21 (by decide) (by omega) (fun c21 => ?_) (fun c21 => ?_)
    · exact absurd c21 (by decide)
    · refine n_const 0 dX12_slack_24 (by decide) ?_
      refine s_iret dX12_slack_25 rfl rfl ?_
      rw [← hP]
      first
        | exact m_P_e (by unfold A_slack; simp [*]) (by decide) h3 hM hO hf
        | exact m_P_s (by unfold A_slack; simp [*]) h3 hM hO hf
        | exact m_P_x (by unfold A_slack; simp [*]) h3 hM hO hf
  · obtain ⟨k, rfl, hk, hk2⟩ := iLt_n c6
    have ek := iN_n hk2
    refine n_const 0 dX12_slack_9 (by decide) ?_
    refine r_goto (tgt := 14) dX12_slack_10 (by decide) ?_
    refine a_put dX12_slack_14 gX12_79 lysX12 rfl rfl rfl (fun s1 hs1 hf1 => ?_)
    have h3 := (congrFun hs1 3).trans pk_us
    have hM := m_R_fr hM hf1 (Or.inr (by omega))
    have hO := m_O_eq hO (m_eq_put hs1 hf1 (by decide))
    have hf := s_fr_tr hf (s_fr_w (lo' := 212) (hi' := 234) hf1 (by omega) (by omega))
    refine r_aload_n dX12_slack_17 rfl rfl ?_
    refine s_getI dX12_slack_18 fX12_79 lysX12 rfl h3 ?_
    refine n_ifle (tgt := 26) dX12_slack_21 (by decide) (by omega) (fun c21 => ?_) (fun c21 => ?_)
    · refine r_aload_n dX12_slack_26 rfl rfl ?_
      refine s_V0I mX12_makespanNow dX12_slack_27 okX12_makespanNow lX12_188 npX12_makespanNow lysX12 rfl (by decide) (by decide) (by decide) (Nat.le_of_ble_eq_true rfl) (Nat.le_of_ble_eq_true rfl) (c_makespanNow0 hM hO.2.2.2.2.2.2.2.2.2.1 hO.2.2.2.2.2.2.2.2.2.2.1 (z_gd hz)) (fun x s1 hq => ?_)
      obtain ⟨rfl, ht, hf1⟩ := hq
      replace hM := m_R_fr hM hf1 (Or.inl (by omega))
      replace hO := m_O_eq hO (m_eq_fr hf1 (by omega))
      replace h3 := (congrFun (hf1 212 (by omega)) 3).trans h3
      replace hf := s_fr_tr hf (s_fr_w hf1 (by omega) (by omega))
      refine r_istore_n dX12_slack_30 rfl (by decide) rfl ?_
      refine r_aload_n dX12_slack_31 rfl rfl ?_
      refine s_getR dX12_slack_32 fX12_29 lysX12 rfl ?_
      refine r_iload_n dX12_slack_35 rfl rfl ?_
      refine a_ld dX12_slack_36 rfl (by omega) (by decide) (ht _ hk).1 ?_
      refine r_istore_n dX12_slack_37 rfl (by decide) rfl ?_
      refine n_bip 61 dX12_slack_38 (by decide) ?_
      refine r_istore dX12_slack_40 (by decide) rfl ?_
      refine r_iconst (v := -1) dX12_slack_42 (by decide) ?_
      refine r_istore dX12_slack_43 (by decide) rfl ?_
      refine r_aload_n dX12_slack_45 rfl rfl ?_
      refine r_iload_n dX12_slack_46 rfl rfl ?_
      refine a_put dX12_slack_47 gX12_36 lysX12 rfl rfl rfl (fun s4 hs4 hf4 => ?_)
      have hg := z_gd hz
      have htb := x_t0_bd hg hk
      have hsb0 := x_s0_bd hg
      have hop : m_op n0 s1 := hO.2.2.2.2.2.2.2.2.2.1
      have lp : ∀ f c v s5, m_R (z 0) s5 → m_eq2 s1 s5 → s5 212 3 = nI 0 → s5 212 14 = nI k → (c = 61 ∧ v = -1) ∨ (c ≤ 60 ∧ v = nI (x_sh (z 0) k ((x_t0 (z 0) k) + c))) → (c ≤ 60 → s5 212 15 = nI ((x_t0 (z 0) k) + c)) → (∀ e, c < e → e ≤ 60 → x_sh (z 0) k ((x_t0 (z 0) k) + e) ≠ x_s0 (z 0)) → s_fr 212 234 s9 s5 → c < f → s_W G mX12_slack 8 0 0 (PP) 50 [some (.ref 212), some (.int (nI k)), some (.int (nI (x_s0 (z 0)))), some (.int (nI (x_t0 (z 0) k))), some (.int (nI c)), some (.int v)] [] s5 := by
        intro f
        induction f with
        | zero =>
          intro c v s5 hM hE h3 h14 hv h15 hall hf hme
          exact absurd hme (by omega)
        | succ f ih =>
          intro c v s5 hM hE h3 h14 hv h15 hall hf hme
          refine r_iload dX12_slack_50 rfl ?_
          refine r_iload_n dX12_slack_52 rfl rfl ?_
          refine r_icmp_eq (tgt := 76) dX12_slack_53 (by decide) (fun c53 => ?_) (fun c53 => ?_)
          · refine r_aload_n dX12_slack_76 rfl rfl ?_
            refine r_iconst (v := -1) dX12_slack_77 (by decide) ?_
            refine a_put dX12_slack_78 gX12_36 lysX12 rfl rfl rfl (fun s2 hs2 hf2 => ?_)
            refine r_iload dX12_slack_81 rfl ?_
            refine s_iret dX12_slack_83 rfl rfl ?_
            rw [← hP]
            have hcv : c ≤ 60 ∧ x_sh (z 0) k (x_t0 (z 0) k + c) = x_s0 (z 0) := by
              rcases hv with ⟨-, e⟩ | ⟨e1, e⟩
              · exact absurd (c53.symm.trans e) (nI_m1 (by omega))
              · refine ⟨e1, (nI_eq (by have := x_sh_bd hg (k := k) (u := x_t0 (z 0) k + c); omega) (by omega)).mp (e.symm.trans c53)⟩
            refine m_P_s (by unfold A_slack; rw [if_pos c6, ek, x_sd_eq (c := c) hcv.2 60 hcv.1 (fun e q1 q2 q3 => hall e q1 q2 q3)]) ?_ (m_R_fr hM hf2 (Or.inr (by omega))) (m_O_eq2 hO (m_eq2_tr hE (m_eq2_put hs2 hf2 (by decide))) ⟨x_t0 (z 0) k + c, by omega, ?_⟩) (s_fr_tr hf (s_fr_w hf2 (by omega) (by omega)))
            · rw [hs2, pk_un (by decide)]; exact h3
            · exact ⟨by rw [hs2]; exact pk_us, by rw [hs2, pk_un (by decide)]; exact h15 hcv.1⟩
          · have hc0 : 0 < c := by
              rcases hv with ⟨e, -⟩ | ⟨-, e⟩
              · omega
              · cases c with
                | zero => exact absurd (by rw [e, Nat.add_zero, x_sh_0 hg hk]) c53
                | succ c => omega
            refine n_inc dX12_slack_56 rfl (n_dec hc0) (by decide) rfl ?_
            refine r_aload_n dX12_slack_59 rfl rfl ?_
            refine r_iload_n dX12_slack_60 rfl rfl ?_
            refine r_iload dX12_slack_61 rfl ?_
            refine n_add dX12_slack_63 ?_
            refine a_put dX12_slack_64 gX12_175 lysX12 rfl rfl rfl (fun s2 hs2 hf2 => ?_)
            have hM2 := m_R_fr hM hf2 (Or.inr (by omega))
            have hE2 := m_eq2_tr hE (m_eq2_put hs2 hf2 (by decide))
            have h32 : s2 212 3 = nI 0 := by rw [hs2, pk_un (by decide)]; exact h3
            have h142 : s2 212 14 = nI k := by rw [hs2, pk_un (by decide)]; exact h14
            have h152 : s2 212 15 = nI (x_t0 (z 0) k + (c - 1)) := by rw [hs2]; exact pk_us
            refine r_aload_n dX12_slack_67 rfl rfl ?_
            refine s_V0I mX12_makespanNow dX12_slack_68 okX12_makespanNow lX12_188 npX12_makespanNow lysX12 rfl (by decide) (by decide) (by decide) (Nat.le_of_ble_eq_true rfl) (Nat.le_of_ble_eq_true rfl) (c_makespanNow (op := n0) (hk := some k) (hu := x_t0 (z 0) k + (c - 1)) hM2 (m_op_eq2 hop hE2) ⟨h142, h152⟩ hw (by omega) (fun q e => by cases e; omega)) (fun x s1 hq => ?_)
            obtain ⟨K, r, t, rk, rfl, -, -, -, -, hf3⟩ := hq
            rw [x_sp_ac hg.1 hg.2, oI_s]
            refine r_istore dX12_slack_71 (by decide) rfl ?_
            refine r_goto (tgt := 50) dX12_slack_73 (by decide) ?_
            refine ih (c - 1) _ _ (m_R_fr hM2 hf3 (Or.inl (by omega))) (m_eq2_tr hE2 (m_eq2_fr hf3 (by omega))) ?_ ?_ (Or.inr ⟨by omega, rfl⟩) (fun _ => ?_) (fun e q1 q2 q3 => ?_) (s_fr_tr (s_fr_tr hf (s_fr_w hf2 (by omega) (by omega))) (s_fr_w hf3 (by omega) (by omega))) (by omega)
            · rw [hf3 212 (by omega)]; exact h32
            · rw [hf3 212 (by omega)]; exact h142
            · rw [hf3 212 (by omega)]; exact h152
            · by_cases e9 : e = c
              · subst e9
                rcases hv with ⟨e5, -⟩ | ⟨-, e5⟩
                · omega
                · exact c53 (by rw [e5, q3])
              · exact hall e (by omega) q2 q3
      refine lp 62 61 (-1) s4 (m_R_fr hM hf4 (Or.inr (by omega))) (m_eq2_put hs4 hf4 (by decide)) ?_ ?_ (Or.inl ⟨rfl, rfl⟩) (fun q => absurd q (by omega)) (fun e q1 q2 => absurd q2 (by omega)) (s_fr_tr hf (s_fr_w hf4 (by omega) (by omega))) (by omega)
      · rw [hs4, pk_un (by decide)]; exact h3
      · rw [hs4]; exact pk_us
    · exact absurd c21 (by decide)
