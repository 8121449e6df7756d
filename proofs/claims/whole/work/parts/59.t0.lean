/-! ===== the times of orders without a cycle: class and reference ===== -/
abbrev n0 : Nat → Bool := fun _ => false
noncomputable abbrev x_t0 (X : x_T) : Nat → Nat := x_ti X n0 none 0
noncomputable abbrev x_r0 (X : x_T) : Nat → Nat := x_re X n0 none 0
noncomputable def x_s0 (X : x_T) : Nat := x_mxe (fun k => x_t0 X k + X (82 + k)) (X 1)
def x_gd (X : x_T) : Prop := x_wf X ∧ x_ac X n0
theorem z_gd {z : z_T} (h : z_wf z) : x_gd (z 0) := h.1
theorem x_t0_bd {X : x_T} (h : x_gd X) {o : Nat} (ho : o < X 1) : x_r0 X o ≤ 1400 ∧ x_t0 X o + X (82 + o) ≤ 1400 ∧ x_r0 X o ≤ x_t0 X o := x_ti_bd h.1 h.2 ho
theorem x_s0_bd {X : x_T} (h : x_gd X) : x_s0 X ≤ 1400 := x_mxe_le _ (fun k hk => (x_t0_bd h hk).2.1)
def m_t0 (X : x_T) (s : s_T) : Prop := ∀ k, k < X 1 → s 219 k = nI (x_t0 X k) ∧ s 218 k = nI (x_r0 X k)
def c_t0 (X : x_T) (s : s_T) (h : Nat) : Prop := ∀ o, o < X 1 → s (h + 1) o = nI (x_r0 X o) ∧ s (h + 2) o = nI (x_t0 X o) ∧ s (h + 3) o = nI (x_t0 X o + X (82 + o)) ∧ s (h + 4) o = oI (x_mp X n0 o)
theorem m_t0_fr {X : x_T} {lo hi : Nat} {s s1 : s_T} (h : m_t0 X s) (hf : s_fr lo hi s s1) (hb : 219 < lo ∨ hi ≤ 218) : m_t0 X s1 := fun k hk => by rw [hf 219 (by omega), hf 218 (by omega)]; exact h k hk
theorem c_t0_fr {X : x_T} {lo hi h : Nat} {s s1 : s_T} (hc : c_t0 X s h) (hf : s_fr lo hi s s1) (hb : h + 4 < lo ∨ hi ≤ h + 1) : c_t0 X s1 h := fun k hk => by rw [hf (h + 1) (by omega), hf (h + 2) (by omega), hf (h + 3) (by omega), hf (h + 4) (by omega)]; exact hc k hk
theorem m_T_t0 {X : x_T} {hu : Nat} {K : Nat → Bool} {r t rk : Nat → Nat} {s : s_T} (hg : x_gd X) (h : m_T X K r t s) (T : x_TT X n0 none hu K r t rk) (M : x_mx X n0 K) : m_t0 X s := fun k hk => by
  have q := x_tb_eq (hk := none) (hu := 0) hg.1 hg.2 (x_TT_n T) M k hk
  have q2 := (h k hk).1 q.1
  rw [q2.1, q2.2, q.2.1, q.2.2]
  exact ⟨rfl, rfl⟩
theorem x_all0 {X : x_T} {hu : Nat} {K : Nat → Bool} {r t rk : Nat → Nat} (hg : x_gd X) (T : x_TT X n0 none hu K r t rk) (M : x_mx X n0 K) : ∀ k, k < X 1 → K k = true := fun k hk => (x_tb_eq (hk := none) (hu := 0) hg.1 hg.2 (x_TT_n T) M k hk).1
theorem c_findTimes0 {G : q_G} {s : s_T} {X : x_T} (hM : m_R X s) (hop : m_op n0 s) (hH : ∃ hu, hu ≤ 50000 ∧ m_H none hu s) (hg : x_gd X) : s_W G mX12_findTimes 5 0 0 (c_I (fun y9 s1 => y9 = nI 0 ∧ m_t0 X s1 ∧ s_fr 218 220 s s1)) 0 (q_ent mX12_findTimes [.ref 212]) [] s := by
  obtain ⟨hu, h1, h2⟩ := hH
  refine s_mono (Nat.le_refl _) (Nat.le_refl _) (Nat.le_refl _) ?_ (c_findTimes hM hop h2 hg.1 h1 (fun q e => by cases e))
  rintro r s1 ⟨x, rfl, K, r, t, rk, rfl, M, hT, T, -, hf⟩
  refine ⟨_, rfl, ?_, m_T_t0 hg hT T M, hf⟩
  rw [x_ct_full _ (x_all0 hg T M), Nat.sub_self]
theorem c_makespanNow0 {G : q_G} {s : s_T} {X : x_T} (hM : m_R X s) (hop : m_op n0 s) (hH : ∃ hu, hu ≤ 50000 ∧ m_H none hu s) (hg : x_gd X) : s_W G mX12_makespanNow 6 0 0 (c_I (fun y9 s1 => y9 = nI (x_s0 X) ∧ m_t0 X s1 ∧ s_fr 218 220 s s1)) 0 (q_ent mX12_makespanNow [.ref 212]) [] s := by
  obtain ⟨hu, h1, h2⟩ := hH
  refine s_mono (Nat.le_refl _) (Nat.le_refl _) (Nat.le_refl _) ?_ (c_makespanNow hM hop h2 hg.1 h1 (fun q e => by cases e))
  rintro r s1 ⟨x, rfl, K, r, t, rk, rfl, M, hT, T, -, hf⟩
  refine ⟨_, rfl, ?_, m_T_t0 hg hT T M, hf⟩
  rw [x_sp_all hg.1 T M (x_all0 hg T M), oI_s]
  congr 1
  exact x_mxe_congr _ (fun k hk => by rw [(x_tb_eq (hk := none) (hu := 0) hg.1 hg.2 (x_TT_n T) M k hk).2.2])
theorem x_ke_all {X : x_T} {K : Nat → Bool} {t : Nat → Nat} (hA : ∀ k, k < X 1 → K k = true) : x_ke X K t = x_mxe (fun k => t k + X (82 + k)) (X 1) := x_mxe_congr _ (fun k hk => by rw [if_pos (hA k hk)])
theorem c_compute0 {G : q_G} {s : s_T} {X : x_T} {o h : Nat} (ho : isX7 o) (hh : isX10 h) (hC : c_R X s o) (hg : x_gd X) (hop : ∀ m, m < 4 → s (h + 5) m = bI false) (hH : s h 9 = -1 ∧ ∃ hu, hu ≤ 50000 ∧ s h 10 = nI hu) : s_W G mX10_compute 3 0 0 (c_I (fun y9 s1 => y9 = bI true ∧ c_t0 X s1 h ∧ s1 h 6 = nI (x_s0 X) ∧ s1 (h + 5) = s (h + 5) ∧ s1 h 9 = s h 9 ∧ s1 h 10 = s h 10 ∧ s_fr h (h + 8) s s1)) 0 (q_ent mX10_compute [.ref h, .ref o]) [] s := by
  obtain ⟨h0, hu, h1, h2⟩ := hH
  refine s_mono (Nat.le_refl _) (Nat.le_refl _) (Nat.le_refl _) ?_ (c_compute (op := n0) (hk := none) ho hh hC hg.1 hop ⟨h0, h2⟩ h1 (fun q e => by cases e))
  rintro r s1 ⟨x, rfl, K, r, t, rk, sd, rfl, M, hT, T, -, -, h6, -, -, -, hf⟩
  have hA := x_all0 hg T M
  refine ⟨_, rfl, ?_, ?_, ?_, hf⟩
  · rw [x_sp_all hg.1 T M hA]; rfl
  · intro k hk
    have q := x_tb_eq (hk := none) (hu := 0) hg.1 hg.2 (x_TT_n T) M k hk
    have q2 := hT k hk q.1
    rw [q2.1, q2.2.1, q2.2.2.1, q2.2.2.2, q.2.1, q.2.2]
    exact ⟨rfl, rfl, rfl, rfl⟩
  · rw [h6, x_ke_all hA]
    congr 1
    exact x_mxe_congr _ (fun k hk => by rw [(x_tb_eq (hk := none) (hu := 0) hg.1 hg.2 (x_TT_n T) M k hk).2.2])
/-- a computed table keeps the class's rest -/
theorem c_eq_tt {h : Nat} {s s1 : s_T} (hh : h = 124 ∨ h = 132 ∨ h = 162) (h5 : s1 (h + 5) = s (h + 5)) (h9 : s1 h 9 = s h 9) (h10 : s1 h 10 = s h 10) (hf : s_fr h (h + 8) s s1) : c_eq s s1 := by
  refine ⟨fun k hk => ?_, ?_, fun q hq => ?_⟩
  · by_cases e : k = h + 5
    · rw [e]; exact h5
    · exact hf k (by omega)
  · rw [hf 161 (by omega)]
  · by_cases e : q = h
    · subst e; exact ⟨h9, h10⟩
    · rw [hf q (by omega)]; exact ⟨rfl, rfl⟩
theorem c_Q_h {s : s_T} (hQ : c_Q s) {h : Nat} (hh : h = 124 ∨ h = 132 ∨ h = 162) : (∀ m, m < 4 → s (h + 5) m = bI false) ∧ (s h 9 = -1 ∧ ∃ hu, hu ≤ 50000 ∧ s h 10 = nI hu) := hQ h hh
theorem c_Z_Q {z : z_T} {s : s_T} (h : c_Z z s) : c_Q s := h.2.2.2.1
theorem c_Z_e0 {z : z_T} {s s1 : s_T} (h : c_Z z s) (hz : z_wf z) (hX : c_R (z 0) s1 1) (e : c_eq s s1) : c_Z z s1 := by
  have q := c_Z_eq h hX e (z_J hz)
  rw [va_up_id] at q
  exact q
def x_cp (X : x_T) (e : Nat → Nat) (j : Nat) : Nat := if X (17 + j) = 0 then X (2 + j) else e (X (22 + 4 * j + (X (17 + j) - 1)))
noncomputable abbrev x_e0 (X : x_T) : Nat → Nat := fun k => x_t0 X k + X (82 + k)
theorem x_cp_bd {X : x_T} (h : x_gd X) {j : Nat} (hj : j < X 0) : x_cp X (x_e0 X) j ≤ 1400 := by
  unfold x_cp
  have h1 := x_jb h.1 hj
  by_cases e : X (17 + j) = 0
  · rw [if_pos e]; omega
  · rw [if_neg e]
    exact (x_t0_bd h (x_rt h.1 hj (i := X (17 + j) - 1) (by omega)).1).2.1
theorem x_rtl {X : x_T} (h : x_wf X) {j : Nat} (hj : j < X 0) (e : ¬ X (17 + j) = 0) : X (22 + 4 * j + (X (17 + j) - 1)) < X 1 := (x_rt h hj (i := X (17 + j) - 1) (by omega)).1
set_option maxRecDepth 20000 in
set_option maxHeartbeats 1000000 in
theorem c_completionOf {G : q_G} {s : s_T} {X : x_T} {o h j : Nat} (ho : isX7 o) (hh : isX10 h) (hC : c_R X s o) (hg : x_gd X) (hj : j < X 0) (ht : c_t0 X s h) : s_W G mX10_completionOf 1 0 0 (c_I (fun y9 s1 => s1 = s ∧ y9 = nI (x_cp X (x_e0 X) j))) 0 (q_ent mX10_completionOf [.ref h, .ref o, .int (nI j)]) [] s := by
  show s_W G mX10_completionOf 1 0 0 _ 0 [some (.ref h), some (.ref o), some (.int (nI j)), none] [] s
  have hs := x_sz hg.1
  have hjb := x_jb hg.1 hj
  refine r_aload_n dX10_completionOf_0 rfl rfl ?_
  refine s_getR dX10_completionOf_1 fX10_52 (layX7 ho) rfl ?_
  refine r_iload_n dX10_completionOf_4 rfl rfl ?_
  refine a_ld dX10_completionOf_5 (X7_stepCounts ho) (by omega) (by decide) (cl_len hC (by omega)) ?_
  refine r_istore_n dX10_completionOf_6 rfl (by decide) rfl ?_
  refine r_iload_n dX10_completionOf_7 rfl rfl ?_
  refine n_ifle (tgt := 29) dX10_completionOf_8 (by decide) (by omega) (fun c8 => ?_) (fun c8 => ?_)
  · refine r_aload_n dX10_completionOf_29 rfl rfl ?_
    refine s_getR dX10_completionOf_30 fX10_74 (layX7 ho) rfl ?_
    refine r_iload_n dX10_completionOf_33 rfl rfl ?_
    refine a_ald dX10_completionOf_34 (X7_jobData ho) (by omega) (by decide) ?_
    refine n_const 0 dX10_completionOf_35 (by decide) ?_
    refine a_ld dX10_completionOf_36 (X7_jobData_row ho (by omega)) (by omega) (by decide) (cl_rel hC hj) ?_
    refine s_iret dX10_completionOf_37 rfl rfl ?_
    refine ⟨_, rfl, rfl, ?_⟩
    unfold x_cp
    first
      | (rw [if_pos c8])
      | (rw [if_neg (by omega)])
  · have hrt := x_rtl hg.1 hj (by omega)
    refine r_aload_n dX10_completionOf_11 rfl rfl ?_
    refine s_getR dX10_completionOf_12 fX10_18 (layX10 hh) rfl ?_
    refine r_aload_n dX10_completionOf_15 rfl rfl ?_
    refine s_getR dX10_completionOf_16 fX10_55 (layX7 ho) rfl ?_
    refine r_iload_n dX10_completionOf_19 rfl rfl ?_
    refine a_ald dX10_completionOf_20 (X7_routes ho) (by omega) (by decide) ?_
    refine r_iload_n dX10_completionOf_21 rfl rfl ?_
    refine n_const 1 dX10_completionOf_22 (by decide) ?_
    refine n_sub dX10_completionOf_23 (by omega) ?_
    refine a_ld dX10_completionOf_24 (X7_routes_row ho (by omega)) (by omega) (by decide) (cl_rt hC (by omega) (by omega)) ?_
    refine a_ld dX10_completionOf_25 (X10_end hh) (by omega) (by decide) (ht _ hrt).2.2.1 ?_
    refine r_goto (tgt := 37) dX10_completionOf_26 (by decide) ?_
    refine s_iret dX10_completionOf_37 rfl rfl ?_
    refine ⟨_, rfl, rfl, ?_⟩
    unfold x_cp
    first
      | (rw [if_pos c8])
      | (rw [if_neg (by omega)])
set_option maxRecDepth 20000 in
set_option maxHeartbeats 1000000 in
theorem c_mCompletionOf {G : q_G} {s : s_T} {X : x_T} {j : Nat} (hM : m_R X s) (hg : x_gd X) (hj : j < X 0) (ht : m_t0 X s) : s_W G mX12_completionOf 2 0 0 (c_I (fun y9 s1 => s1 = s ∧ y9 = nI (x_cp X (x_e0 X) j))) 0 (q_ent mX12_completionOf [.ref 212, .int (nI j)]) [] s := by
  show s_W G mX12_completionOf 2 0 0 _ 0 [some (.ref 212), some (.int (nI j)), none] [] s
  have hs := x_sz hg.1
  have hjb := x_jb hg.1 hj
  refine r_aload_n dX12_completionOf_0 rfl rfl ?_
  refine s_getR dX12_completionOf_1 fX12_9 lysX12 rfl ?_
  refine n_bip 17 dX12_completionOf_4 (by decide) ?_
  refine r_iload_n dX12_completionOf_6 rfl rfl ?_
  refine n_add dX12_completionOf_7 ?_
  refine m_ld dX12_completionOf_8 hM (by omega) ?_
  refine r_istore_n dX12_completionOf_9 rfl (by decide) rfl ?_
  refine r_iload_n dX12_completionOf_10 rfl rfl ?_
  refine n_ifne (tgt := 25) dX12_completionOf_11 (by decide) (by omega) (fun c11 => ?_) (fun c11 => ?_)
  · have hrt := x_rtl hg.1 hj (by omega)
    refine r_aload_n dX12_completionOf_25 rfl rfl ?_
    refine r_aload_n dX12_completionOf_26 rfl rfl ?_
    refine r_iload_n dX12_completionOf_27 rfl rfl ?_
    refine r_iload_n dX12_completionOf_28 rfl rfl ?_
    refine n_const 1 dX12_completionOf_29 (by decide) ?_
    refine n_sub dX12_completionOf_30 (by omega) ?_
    refine s_V2I mX12_sequence dX12_completionOf_31 okX12_sequence lX12_110 npX12_sequence lysX12 rfl (by decide) (by decide) (by decide) (Nat.le_of_ble_eq_true rfl) (Nat.le_of_ble_eq_true rfl) (c_sequence hM (by omega) (by omega)) (fun x s1 hq => ?_)
    obtain ⟨rfl, rfl⟩ := hq
    refine s_V1I mX12_endOf dX12_completionOf_34 okX12_endOf lX12_164 npX12_endOf lysX12 rfl (by decide) (by decide) (by decide) (Nat.le_of_ble_eq_true rfl) (Nat.le_of_ble_eq_true rfl) (c_endOf hM (by omega) (ht _ hrt).1) (fun x s1 hq => ?_)
    obtain ⟨rfl, rfl⟩ := hq
    refine s_iret dX12_completionOf_37 rfl rfl ?_
    refine ⟨_, rfl, rfl, ?_⟩
    unfold x_cp
    first
      | (rw [if_pos c11])
      | (rw [if_neg (by omega)])
  · refine r_aload_n dX12_completionOf_14 rfl rfl ?_
    refine s_getR dX12_completionOf_15 fX12_9 lysX12 rfl ?_
    refine n_const 2 dX12_completionOf_18 (by decide) ?_
    refine r_iload_n dX12_completionOf_19 rfl rfl ?_
    refine n_add dX12_completionOf_20 ?_
    refine m_ld dX12_completionOf_21 hM (by omega) ?_
    refine r_goto (tgt := 37) dX12_completionOf_22 (by decide) ?_
    refine s_iret dX12_completionOf_37 rfl rfl ?_
    refine ⟨_, rfl, rfl, ?_⟩
    unfold x_cp
    first
      | (rw [if_pos c11])
      | (rw [if_neg (by omega)])
