section
/-! ===== the reference: dispatch, repair, bounds ===== -/
theorem x_sy_0 {X : x_T} {m : Nat} : x_sy X 0 m = 0 := by
  unfold x_sy
  exact (x_ct_congr (K' := fun _ => false) _ (fun k _ => decide_eq_false (by omega))).trans (x_ct_nil _)
theorem x_g0_0 {X : x_T} {j : Nat} : x_g0 X 0 j = 0 := by
  unfold x_g0
  exact (x_ct_congr (K' := fun _ => false) _ (fun k _ => decide_eq_false (fun z => by have := z.2; omega))).trans (x_ct_nil _)
/-- kept, on the machines before m or before place p of m -/
def x_kb (X : x_T) (T m p o : Nat) : Prop := x_t0 X o < T ∧ (X (62 + o) < m ∨ (X (62 + o) = m ∧ x_po X o < p))
noncomputable def x_kg (X : x_T) (T m p j : Nat) : Nat := x_ct (fun o => decide (X (42 + o) = j ∧ x_t0 X o < T ∧ (X (62 + o) < m ∨ (X (62 + o) = m ∧ x_po X o < p)))) (X 1)
theorem x_kb_s {X : x_T} (hg : x_gd X) {T m p o : Nat} (hm : m < 4) (hp : p < X (179 + m)) (ho : o < X 1) (ht : x_t0 X (X (183 + 5 * m + p)) < T) : x_kb X T m (p + 1) o ↔ (x_kb X T m p o ∨ o = X (183 + 5 * m + p)) := by
  have hod := x_od hg.1 hm hp
  have hpo := x_po_eq hg.1 hm hp
  have ho2 := x_po_ok hg.1 ho
  unfold x_kb
  constructor
  · intro ⟨a, b⟩
    by_cases e : X (62 + o) = m ∧ x_po X o = p
    · right
      have := ho2.2
      rw [e.1, e.2] at this
      exact this.symm
    · left
      exact ⟨a, by omega⟩
  · intro q
    rcases q with q | q
    · exact ⟨q.1, by have := q.2; omega⟩
    · subst q
      exact ⟨ht, Or.inr ⟨hod.2, by omega⟩⟩
theorem x_kg_s {X : x_T} (hg : x_gd X) {T m p j : Nat} (hm : m < 4) (hp : p < X (179 + m)) (ht : x_t0 X (X (183 + 5 * m + p)) < T) : x_kg X T m (p + 1) j = x_kg X T m p j + (if X (42 + X (183 + 5 * m + p)) = j then 1 else 0) := by
  have hod := x_od hg.1 hm hp
  have hpo := x_po_eq hg.1 hm hp
  unfold x_kg
  by_cases e : X (42 + X (183 + 5 * m + p)) = j
  · rw [if_pos e]
    have h := x_ct_up (K := fun o => decide (X (42 + o) = j ∧ x_t0 X o < T ∧ (X (62 + o) < m ∨ (X (62 + o) = m ∧ x_po X o < p)))) (k := X (183 + 5 * m + p)) (decide_eq_false (fun z => by have := z.2.2; omega)) (X 1)
    rw [if_pos hod.1] at h
    rw [← h]
    refine x_ct_congr _ (fun o ho => ?_)
    have q := x_kb_s hg hm hp ho ht
    by_cases e2 : o = X (183 + 5 * m + p)
    · subst e2
      rw [va_up_s]
      exact decide_eq_true ⟨e, q.mpr (Or.inr rfl)⟩
    · rw [va_up_n e2]
      exact decide_eq_decide.mpr ⟨fun z => ⟨z.1, (q.mp z.2).resolve_right e2⟩, fun z => ⟨z.1, q.mpr (Or.inl z.2)⟩⟩
  · rw [if_neg e, Nat.add_zero]
    refine x_ct_congr _ (fun o ho => ?_)
    have q := x_kb_s hg hm hp ho ht
    exact decide_eq_decide.mpr ⟨fun z => ⟨z.1, (q.mp z.2).resolve_right (fun e2 => e (by rw [← e2]; exact z.1))⟩, fun z => ⟨z.1, q.mpr (Or.inl z.2)⟩⟩
theorem x_kb_e {X : x_T} (hg : x_gd X) {T m o : Nat} (hm : m < 4) (ho : o < X 1) : x_kb X T m (x_sy X T m) o ↔ x_kb X T (m + 1) 0 o := by
  unfold x_kb
  have h2 := x_po_ok hg.1 ho
  constructor
  · intro ⟨a, b⟩; exact ⟨a, by omega⟩
  · intro ⟨a, b⟩
    refine ⟨a, ?_⟩
    by_cases e : X (62 + o) = m
    · right
      refine ⟨e, ?_⟩
      rw [e] at h2
      refine (x_sy_i hg hm h2.1).mp ?_
      rw [h2.2]; exact a
    · left; omega
theorem x_kg_e {X : x_T} (hg : x_gd X) {T m j : Nat} (hm : m < 4) : x_kg X T m (x_sy X T m) j = x_kg X T (m + 1) 0 j :=
  x_ct_congr _ (fun o ho => decide_eq_decide.mpr ⟨fun z => ⟨z.1, (x_kb_e hg hm ho).mp z.2⟩, fun z => ⟨z.1, (x_kb_e hg hm ho).mpr z.2⟩⟩)
theorem x_kg_4 {X : x_T} (hg : x_gd X) {T j : Nat} : x_kg X T 4 0 j = x_g0 X T j :=
  x_ct_congr _ (fun o ho => decide_eq_decide.mpr ⟨fun z => ⟨z.1, z.2.1⟩, fun z => ⟨z.1, z.2, Or.inl (x_op hg.1 ho).2.2.2.2.2.2.1⟩⟩)
theorem x_kg_0 {X : x_T} {T j : Nat} : x_kg X T 0 0 j = 0 := by
  unfold x_kg
  exact (x_ct_congr (K' := fun _ => false) _ (fun k _ => decide_eq_false (fun z => by have := z.2.2; omega))).trans (x_ct_nil _)
set_option maxRecDepth 20000 in
set_option maxHeartbeats 1000000 in
theorem m_dispatch {G : q_G} {s : s_T} {z : z_T} (hz : z_wf z) (hM : m_R (z 0) s) (hO : m_O z s) {rl : Int32} : s_W G mX12_dispatch 8 0 0 (m_P (A_dispatch z rl) s) 0 (q_ent mX12_dispatch [.ref 212, .int rl]) [] s := by
  show s_W G mX12_dispatch 8 0 0 _ 0 [some (.ref 212), some (.int rl), none] [] s
  have hw := hz.1.1
  have hs := x_sz hw
  have hf : s_fr 212 234 s s := s_fr_rf
  refine r_aload_n dX12_dispatch_0 rfl rfl ?_
  refine r_iload_n dX12_dispatch_1 rfl rfl ?_
  refine r_i2l dX12_dispatch_2 rfl ?_
  refine r_lconst (v := (nI 0).toInt64) dX12_dispatch_3 (by decide) ?_
  refine r_ldc2 dX12_dispatch_4 kL_86 ?_
  refine s_S3I mX12_in dX12_dispatch_7 okX12_in lX12_82 npX12_in (by decide) (by decide) (by decide) (Nat.le_of_ble_eq_true rfl) (Nat.le_of_ble_eq_true rfl) (c_in2 (by decide) (by decide)) (fun x s1 hq => ?_)
  obtain ⟨e9, rfl⟩ := hq
  replace e9 := e9.symm
  subst e9
  refine b_ifeq (tgt := 17) dX12_dispatch_10 (by decide) (fun c10 => ?_) (fun c10 => ?_)
  · refine n_const 1 dX12_dispatch_17 (by decide) ?_
    refine a_put dX12_dispatch_18 gX12_79 lysX12 rfl rfl rfl (fun s1 hs1 hf1 => ?_)
    have h3 := (congrFun hs1 3).trans pk_us
    have hM := m_R_fr hM hf1 (Or.inr (by omega))
    have hO := m_O_eq hO (m_eq_put hs1 hf1 (by decide))
    have hf := s_fr_tr hf (s_fr_w (lo' := 212) (hi' := 234) hf1 (by omega) (by omega))
    refine r_aload_n dX12_dispatch_21 rfl rfl ?_
    refine s_getI dX12_dispatch_22 fX12_79 lysX12 rfl h3 ?_
    refine n_ifle (tgt := 30) dX12_dispatch_25 (by decide) (by omega) (fun c25 => ?_) (fun c25 => ?_)
    · exact absurd c25 (by decide)
    · refine n_const 0 dX12_dispatch_28 (by decide) ?_
      refine s_iret dX12_dispatch_29 rfl rfl ?_
      first
        | exact m_P_e (by unfold A_dispatch; simp [*]) (by decide) h3 hM hO hf
        | exact m_P_s (by unfold A_dispatch; simp [*]) h3 hM hO hf
        | exact m_P_x (by unfold A_dispatch; simp [*]) h3 hM hO hf
  · obtain ⟨rl, rfl, hrl0, hrl, hrl2⟩ := iIn_n c10
    have erl := iN_n hrl2
    refine n_const 0 dX12_dispatch_13 (by decide) ?_
    refine r_goto (tgt := 18) dX12_dispatch_14 (by decide) ?_
    refine a_put dX12_dispatch_18 gX12_79 lysX12 rfl rfl rfl (fun s1 hs1 hf1 => ?_)
    have h3 := (congrFun hs1 3).trans pk_us
    have hM := m_R_fr hM hf1 (Or.inr (by omega))
    have hO := m_O_eq hO (m_eq_put hs1 hf1 (by decide))
    have hf := s_fr_tr hf (s_fr_w (lo' := 212) (hi' := 234) hf1 (by omega) (by omega))
    refine r_aload_n dX12_dispatch_21 rfl rfl ?_
    refine s_getI dX12_dispatch_22 fX12_79 lysX12 rfl h3 ?_
    refine n_ifle (tgt := 30) dX12_dispatch_25 (by decide) (by omega) (fun c25 => ?_) (fun c25 => ?_)
    · refine n_const 0 dX12_dispatch_30 (by decide) ?_
      refine r_istore_n dX12_dispatch_31 rfl (by decide) rfl ?_
      have l2 : ∀ f j s1, m_R (x_kp (z 0) 0) s1 → (∀ q, q < j → s1 222 q = nI 0) → m_O z s1 → s1 212 3 = nI 0 → s_fr 212 234 s s1 → j ≤ 5 → 5 < j + f → s_W G mX12_dispatch 8 0 0 (m_P (A_dispatch z (nI rl)) s) 56 [some (.ref 212), some (.int (nI rl)), some (.int (nI j))] [] s1 := by
        intro f
        induction f with
        | zero =>
          intro j s1 hM hg hO h3 hf hj hme
          exact absurd hme (by omega)
        | succ f ih =>
          intro j s1 hM hg hO h3 hf hj hme
          refine r_iload_n dX12_dispatch_56 rfl rfl ?_
          refine n_const 5 dX12_dispatch_57 (by decide) ?_
          refine n_cge (tgt := 74) dX12_dispatch_58 (by decide) (by omega) (by omega) (fun c58 => ?_) (fun c58 => ?_)
          · have e9 : j = 5 := by omega
            subst e9
            obtain ⟨rk, hiv⟩ := x_kp_iv (z_gd hz) 0
            have hE : ∀ q, q < x_kp (z 0) 0 1 → y_K (x_kp (z 0) 0) (x_g0 (z 0) 0) q = true → s1 223 q = nI (x_t0 (z 0) q) := fun q hq hqK => by
              rw [show x_kp (z 0) 0 1 = z 0 1 from x_kq_lo (by omega)] at hq
              rw [x_kp_K (z_gd hz) hq] at hqK
              exact absurd (of_decide_eq_true hqK) (by omega)
            replace hg : ∀ j, j < 5 → s1 222 j = nI (x_g0 (z 0) 0 j) := fun j hj => by rw [x_g0_0]; exact hg j hj
            refine r_aload_n dX12_dispatch_74 rfl rfl ?_
            refine r_iload_n dX12_dispatch_75 rfl rfl ?_
            refine n_const 0 dX12_dispatch_76 (by decide) ?_
            refine s_V2V mX12_build dX12_dispatch_77 okX12_build lX12_241 npX12_build lysX12 rfl (by decide) (by decide) (by decide) (Nat.le_of_ble_eq_true rfl) (Nat.le_of_ble_eq_true rfl) (d_mBuild hM hiv (by omega) hrl hE hg) (fun s1 hq => ?_)
            obtain ⟨hM, hfb⟩ := hq
            replace hO := m_O_eq hO ⟨fun k hk => hfb k (by omega) (by omega) (by omega), fun j _ => by rw [hfb 212 (by omega) (by omega) (by omega)]⟩
            replace h3 := (congrFun (hfb 212 (by omega) (by omega) (by omega)) 3).trans h3
            replace hf : s_fr 212 234 s s1 := fun k hk => (hfb k (by omega) (by omega) (by omega)).trans (hf k hk)
            refine r_aload_n dX12_dispatch_80 rfl rfl ?_
            refine s_V0I mX12_makespanNow dX12_dispatch_81 okX12_makespanNow lX12_188 npX12_makespanNow lysX12 rfl (by decide) (by decide) (by decide) (Nat.le_of_ble_eq_true rfl) (Nat.le_of_ble_eq_true rfl) (c_makespanNow0 (X := x_di (z 0) 0 rl) hM hO.2.2.2.2.2.2.2.2.2.1 hO.2.2.2.2.2.2.2.2.2.2.1 (x_di_gd (z_gd hz) (by omega))) (fun x s1 hq => ?_)
            obtain ⟨rfl, ht9, hf1⟩ := hq
            replace hM := m_R_fr hM hf1 (Or.inl (by omega))
            replace hO := m_O_eq hO (m_eq_fr hf1 (by omega))
            replace h3 := (congrFun (hf1 212 (by omega)) 3).trans h3
            replace hf := s_fr_tr hf (s_fr_w hf1 (by omega) (by omega))
            refine s_iret dX12_dispatch_84 rfl rfl ?_
            exact m_P_x (by unfold A_dispatch; rw [if_pos c10, erl]; rfl) h3 hM hO hf
            
          · refine r_aload_n dX12_dispatch_61 rfl rfl ?_
            refine s_getR dX12_dispatch_62 fX12_43 lysX12 rfl ?_
            refine r_iload_n dX12_dispatch_65 rfl rfl ?_
            refine n_const 0 dX12_dispatch_66 (by decide) ?_
            refine a_st dX12_dispatch_67 rfl (by omega) (by decide) (fun s2 hs2 hf2 => ?_)
            replace hM := m_R_fr hM hf2 (Or.inl (by omega))
            replace hO := m_O_eq hO (m_eq_fr hf2 (by omega))
            replace h3 := (congrFun (hf2 212 (by omega)) 3).trans h3
            replace hf := s_fr_tr hf (s_fr_w hf2 (by omega) (by omega))
            refine n_inc dX12_dispatch_68 rfl (n_i1 _) (by decide) rfl ?_
            refine r_goto (tgt := 56) dX12_dispatch_71 (by decide) ?_
            refine ih (j + 1) s2 hM (fun q hq => ?_) hO h3 hf (by omega) (by omega)
            rw [hs2]
            by_cases e : q = j
            · subst e; rw [pk_us]
            · rw [pk_un e]; exact hg q (by omega)
      have l1 : ∀ f i s1, m_R (x_kq (z 0) (x_sy (z 0) 0) i) s1 → m_O z s1 → s1 212 3 = nI 0 → s_fr 212 234 s s1 → i ≤ 4 → 4 < i + f → s_W G mX12_dispatch 8 0 0 (m_P (A_dispatch z (nI rl)) s) 32 [some (.ref 212), some (.int (nI rl)), some (.int (nI i))] [] s1 := by
        intro f
        induction f with
        | zero =>
          intro i s1 hM hO h3 hf hi hme
          exact absurd hme (by omega)
        | succ f ih =>
          intro i s1 hM hO h3 hf hi hme
          refine r_iload_n dX12_dispatch_32 rfl rfl ?_
          refine n_const 4 dX12_dispatch_33 (by decide) ?_
          refine n_cge (tgt := 54) dX12_dispatch_34 (by decide) (by omega) (by omega) (fun c34 => ?_) (fun c34 => ?_)
          · refine n_const 0 dX12_dispatch_54 (by decide) ?_
            refine r_istore_n dX12_dispatch_55 rfl (by decide) rfl ?_
            have e9 : i = 4 := by omega
            subst e9
            exact l2 6 0 s1 hM (fun q hq => absurd hq (by omega)) hO h3 hf (by omega) (by omega)
          · refine r_aload_n dX12_dispatch_37 rfl rfl ?_
            refine s_getR dX12_dispatch_38 fX12_9 lysX12 rfl ?_
            refine n_sip 179 dX12_dispatch_41 (by decide) ?_
            refine r_iload_n dX12_dispatch_44 rfl rfl ?_
            refine n_add dX12_dispatch_45 ?_
            refine n_const 0 dX12_dispatch_46 (by decide) ?_
            refine m_st dX12_dispatch_47 hM (by omega) (fun s hM hf1 => ?_)
            replace hO := m_O_eq hO (m_eq_fr hf1 (by omega))
            replace h3 := (congrFun (hf1 212 (by omega)) 3).trans h3
            replace hf := s_fr_tr hf (s_fr_w hf1 (by omega) (by omega))
            refine n_inc dX12_dispatch_48 rfl (n_i1 _) (by decide) rfl ?_
            refine r_goto (tgt := 32) dX12_dispatch_51 (by decide) ?_
            refine ih (i + 1) s ?_ hO h3 hf (by omega) (by omega)
            show m_R (va_up _ _ (x_sy (z 0) 0 i)) _
            rw [x_sy_0]
            exact hM
      exact l1 5 0 s1 hM hO h3 hf (by omega) (by omega)
    · exact absurd c25 (by decide)
set_option maxRecDepth 20000 in
set_option maxHeartbeats 1000000 in
theorem m_repair {G : q_G} {s : s_T} {z : z_T} (hz : z_wf z) (hM : m_R (z 0) s) (hO : m_O z s) {T rl : Int32} : s_W G mX12_repair 8 0 0 (m_P (A_repair z T rl) s) 0 (q_ent mX12_repair [.ref 212, .int T, .int rl]) [] s := by
  show s_W G mX12_repair 8 0 0 _ 0 [some (.ref 212), some (.int T), some (.int rl), none, none, none, none] [] s
  have hw := hz.1.1
  have hs := x_sz hw
  have hf : s_fr 212 234 s s := s_fr_rf
  refine r_aload_n dX12_repair_0 rfl rfl ?_
  refine r_iload_n dX12_repair_1 rfl rfl ?_
  refine r_i2l dX12_repair_2 rfl ?_
  refine r_lconst (v := (nI 0).toInt64) dX12_repair_3 (by decide) ?_
  refine r_ldc2 dX12_repair_4 kL_244 ?_
  refine s_S3I mX12_in dX12_repair_7 okX12_in lX12_82 npX12_in (by decide) (by decide) (by decide) (Nat.le_of_ble_eq_true rfl) (Nat.le_of_ble_eq_true rfl) (c_in2 (by decide) (by decide)) (fun x s1 hq => ?_)
  obtain ⟨e9, rfl⟩ := hq
  replace e9 := e9.symm
  subst e9
  refine b_ifeq (tgt := 29) dX12_repair_10 (by decide) (fun c10 => ?_) (fun c10 => ?_)
  · refine n_const 1 dX12_repair_29 (by decide) ?_
    refine a_put dX12_repair_30 gX12_79 lysX12 rfl rfl rfl (fun s1 hs1 hf1 => ?_)
    have h3 := (congrFun hs1 3).trans pk_us
    have hM := m_R_fr hM hf1 (Or.inr (by omega))
    have hO := m_O_eq hO (m_eq_put hs1 hf1 (by decide))
    have hf := s_fr_tr hf (s_fr_w (lo' := 212) (hi' := 234) hf1 (by omega) (by omega))
    refine r_aload_n dX12_repair_33 rfl rfl ?_
    refine s_getI dX12_repair_34 fX12_79 lysX12 rfl h3 ?_
    refine n_ifle (tgt := 42) dX12_repair_37 (by decide) (by omega) (fun c37 => ?_) (fun c37 => ?_)
    · exact absurd c37 (by decide)
    · refine n_const 0 dX12_repair_40 (by decide) ?_
      refine s_iret dX12_repair_41 rfl rfl ?_
      first
        | exact m_P_e (by unfold A_repair; simp [*]) (by decide) h3 hM hO hf
        | exact m_P_s (by unfold A_repair; simp [*]) h3 hM hO hf
        | exact m_P_x (by unfold A_repair; simp [*]) h3 hM hO hf
  · obtain ⟨T, rfl, hT0, hT, hT2⟩ := iIn_n c10
    have eT := iN_n hT2
    refine r_iload_n dX12_repair_13 rfl rfl ?_
    refine r_i2l dX12_repair_14 rfl ?_
    refine r_lconst (v := (nI 0).toInt64) dX12_repair_15 (by decide) ?_
    refine r_ldc2 dX12_repair_16 kL_86 ?_
    refine s_S3I mX12_in dX12_repair_19 okX12_in lX12_82 npX12_in (by decide) (by decide) (by decide) (Nat.le_of_ble_eq_true rfl) (Nat.le_of_ble_eq_true rfl) (c_in2 (by decide) (by decide)) (fun x s1 hq => ?_)
    obtain ⟨e9, rfl⟩ := hq
    replace e9 := e9.symm
    subst e9
    refine b_ifeq (tgt := 29) dX12_repair_22 (by decide) (fun c22 => ?_) (fun c22 => ?_)
    · refine n_const 1 dX12_repair_29 (by decide) ?_
      refine a_put dX12_repair_30 gX12_79 lysX12 rfl rfl rfl (fun s1 hs1 hf1 => ?_)
      have h3 := (congrFun hs1 3).trans pk_us
      have hM := m_R_fr hM hf1 (Or.inr (by omega))
      have hO := m_O_eq hO (m_eq_put hs1 hf1 (by decide))
      have hf := s_fr_tr hf (s_fr_w (lo' := 212) (hi' := 234) hf1 (by omega) (by omega))
      refine r_aload_n dX12_repair_33 rfl rfl ?_
      refine s_getI dX12_repair_34 fX12_79 lysX12 rfl h3 ?_
      refine n_ifle (tgt := 42) dX12_repair_37 (by decide) (by omega) (fun c37 => ?_) (fun c37 => ?_)
      · exact absurd c37 (by decide)
      · refine n_const 0 dX12_repair_40 (by decide) ?_
        refine s_iret dX12_repair_41 rfl rfl ?_
        first
          | exact m_P_e (by unfold A_repair; simp [*]) (by decide) h3 hM hO hf
          | exact m_P_s (by unfold A_repair; simp [*]) h3 hM hO hf
          | exact m_P_x (by unfold A_repair; simp [*]) h3 hM hO hf
    · obtain ⟨rl, rfl, hrl0, hrl, hrl2⟩ := iIn_n c22
      have erl := iN_n hrl2
      refine n_const 0 dX12_repair_25 (by decide) ?_
      refine r_goto (tgt := 30) dX12_repair_26 (by decide) ?_
      refine a_put dX12_repair_30 gX12_79 lysX12 rfl rfl rfl (fun s1 hs1 hf1 => ?_)
      have h3 := (congrFun hs1 3).trans pk_us
      have hM := m_R_fr hM hf1 (Or.inr (by omega))
      have hO := m_O_eq hO (m_eq_put hs1 hf1 (by decide))
      have hf := s_fr_tr hf (s_fr_w (lo' := 212) (hi' := 234) hf1 (by omega) (by omega))
      refine r_aload_n dX12_repair_33 rfl rfl ?_
      refine s_getI dX12_repair_34 fX12_79 lysX12 rfl h3 ?_
      refine n_ifle (tgt := 42) dX12_repair_37 (by decide) (by omega) (fun c37 => ?_) (fun c37 => ?_)
      · refine r_aload_n dX12_repair_42 rfl rfl ?_
        refine s_V0I mX12_findTimes dX12_repair_43 okX12_findTimes lX12_181 npX12_findTimes lysX12 rfl (by decide) (by decide) (by decide) (Nat.le_of_ble_eq_true rfl) (Nat.le_of_ble_eq_true rfl) (c_findTimes0 hM hO.2.2.2.2.2.2.2.2.2.1 hO.2.2.2.2.2.2.2.2.2.2.1 (z_gd hz)) (fun x s1 hq => ?_)
        obtain ⟨rfl, ht, hf1⟩ := hq
        replace hM := m_R_fr hM hf1 (Or.inl (by omega))
        replace hO := m_O_eq hO (m_eq_fr hf1 (by omega))
        replace h3 := (congrFun (hf1 212 (by omega)) 3).trans h3
        replace hf := s_fr_tr hf (s_fr_w hf1 (by omega) (by omega))
        refine r_istore_n dX12_repair_46 rfl (by decide) rfl ?_
        refine n_const 0 dX12_repair_47 (by decide) ?_
        refine r_istore dX12_repair_48 (by decide) rfl ?_
        have l2 : ∀ f m (L5 : Option Value) (L6 : Option Value) s1, m_R (x_kq (z 0) (x_sy (z 0) T) m) s1 → m_t0 (z 0) s1 → (∀ j, j < 5 → s1 222 j = nI (x_kg (z 0) T m 0 j)) → (∀ q, q < z 0 1 → x_kb (z 0) T m 0 q → s1 223 q = nI (x_t0 (z 0) q)) → m_O z s1 → s1 212 3 = nI 0 → s_fr 212 234 s s1 → m ≤ 4 → 4 < m + f → s_W G mX12_repair 8 0 0 (m_P (A_repair z (nI T) (nI rl)) s) 73 [some (.ref 212), some (.int (nI T)), some (.int (nI rl)), some (.int (nI 0)), some (.int (nI m)), L5, L6] [] s1 := by
          intro f
          induction f with
          | zero =>
            intro m L5 L6 s1 hM ht hg hE hO h3 hf hm hme
            exact absurd hme (by omega)
          | succ f ih =>
            intro m L5 L6 s1 hM ht hg hE hO h3 hf hm hme
            refine r_iload dX12_repair_73 rfl ?_
            refine n_const 4 dX12_repair_75 (by decide) ?_
            refine n_cge (tgt := 183) dX12_repair_76 (by decide) (by omega) (by omega) (fun c76 => ?_) (fun c76 => ?_)
            · have e9 : m = 4 := by omega
              subst e9
              obtain ⟨rk, hiv⟩ := x_kp_iv (z_gd hz) T
              replace hE : ∀ q, q < x_kp (z 0) T 1 → y_K (x_kp (z 0) T) (x_g0 (z 0) T) q = true → s1 223 q = nI (x_t0 (z 0) q) := fun q hq hqK => by
                rw [show x_kp (z 0) T 1 = z 0 1 from x_kq_lo (by omega)] at hq
                rw [x_kp_K (z_gd hz) hq] at hqK
                exact hE q hq ⟨of_decide_eq_true hqK, Or.inl (x_op hw hq).2.2.2.2.2.2.1⟩
              replace hg : ∀ j, j < 5 → s1 222 j = nI (x_g0 (z 0) T j) := fun j hj => by rw [← x_kg_4 (z_gd hz)]; exact hg j hj
              refine r_aload_n dX12_repair_183 rfl rfl ?_
              refine r_iload_n dX12_repair_184 rfl rfl ?_
              refine r_iload_n dX12_repair_185 rfl rfl ?_
              refine s_V2V mX12_build dX12_repair_186 okX12_build lX12_241 npX12_build lysX12 rfl (by decide) (by decide) (by decide) (Nat.le_of_ble_eq_true rfl) (Nat.le_of_ble_eq_true rfl) (d_mBuild hM hiv (by omega) hrl hE hg) (fun s1 hq => ?_)
              obtain ⟨hM, hfb⟩ := hq
              replace hO := m_O_eq hO ⟨fun k hk => hfb k (by omega) (by omega) (by omega), fun j _ => by rw [hfb 212 (by omega) (by omega) (by omega)]⟩
              replace h3 := (congrFun (hfb 212 (by omega) (by omega) (by omega)) 3).trans h3
              replace hf : s_fr 212 234 s s1 := fun k hk => (hfb k (by omega) (by omega) (by omega)).trans (hf k hk)
              refine r_aload_n dX12_repair_189 rfl rfl ?_
              refine s_V0I mX12_makespanNow dX12_repair_190 okX12_makespanNow lX12_188 npX12_makespanNow lysX12 rfl (by decide) (by decide) (by decide) (Nat.le_of_ble_eq_true rfl) (Nat.le_of_ble_eq_true rfl) (c_makespanNow0 (X := x_di (z 0) T rl) hM hO.2.2.2.2.2.2.2.2.2.1 hO.2.2.2.2.2.2.2.2.2.2.1 (x_di_gd (z_gd hz) (by omega))) (fun x s1 hq => ?_)
              obtain ⟨rfl, ht9, hf1⟩ := hq
              replace hM := m_R_fr hM hf1 (Or.inl (by omega))
              replace hO := m_O_eq hO (m_eq_fr hf1 (by omega))
              replace h3 := (congrFun (hf1 212 (by omega)) 3).trans h3
              replace hf := s_fr_tr hf (s_fr_w hf1 (by omega) (by omega))
              refine s_iret dX12_repair_193 rfl rfl ?_
              exact m_P_x (by unfold A_repair; rw [c10, c22, Bool.and_self, if_pos rfl, erl, eT]; rfl) h3 hM hO hf
              
            · have hm4 := c76
              have hmn := x_mn hw hm4
              refine n_const 0 dX12_repair_79 (by decide) ?_
              refine r_istore dX12_repair_80 (by decide) rfl ?_
              have l3 : ∀ f2 p (L6 : Option Value) s1, m_R (x_kq (z 0) (x_sy (z 0) T) m) s1 → m_t0 (z 0) s1 → (∀ q, q < p → x_t0 (z 0) (z 0 (183 + 5 * m + q)) < T) → (∀ j, j < 5 → s1 222 j = nI (x_kg (z 0) T m p j)) → (∀ q, q < z 0 1 → x_kb (z 0) T m p q → s1 223 q = nI (x_t0 (z 0) q)) → m_O z s1 → s1 212 3 = nI 0 → s_fr 212 234 s s1 → p ≤ z 0 (179 + m) → z 0 (179 + m) < p + f2 → s_W G mX12_repair 8 0 0 (m_P (A_repair z (nI T) (nI rl)) s) 82 [some (.ref 212), some (.int (nI T)), some (.int (nI rl)), some (.int (nI 0)), some (.int (nI m)), some (.int (nI p)), L6] [] s1 := by
                intro f2
                induction f2 with
                | zero =>
                  intro p L6 s1 hM ht h1 hg hE hO h3 hf hp hme
                  exact absurd hme (by omega)
                | succ f2 ih2 =>
                  intro p L6 s1 hM ht h1 hg hE hO h3 hf hp hme
                  refine r_iload dX12_repair_82 rfl ?_
                  refine r_aload_n dX12_repair_84 rfl rfl ?_
                  refine s_getR dX12_repair_85 fX12_9 lysX12 rfl ?_
                  refine n_sip 179 dX12_repair_88 (by decide) ?_
                  refine r_iload dX12_repair_91 rfl ?_
                  refine n_add dX12_repair_93 ?_
                  refine m_ld dX12_repair_94 hM (by omega) ?_
                  rw [x_kq_lo (by omega)]
                  refine n_cge (tgt := 164) dX12_repair_95 (by decide) (by omega) (by omega) (fun c95 => ?_) (fun c95 => ?_)
                  · refine r_aload_n dX12_repair_164 rfl rfl ?_
                    refine s_getR dX12_repair_165 fX12_9 lysX12 rfl ?_
                    refine n_sip 179 dX12_repair_168 (by decide) ?_
                    refine r_iload dX12_repair_171 rfl ?_
                    refine n_add dX12_repair_173 ?_
                    refine r_iload dX12_repair_174 rfl ?_
                    refine m_st dX12_repair_176 hM (by omega) (fun s hM hf1 => ?_)
                    skip
                    refine n_inc dX12_repair_177 rfl (n_i1 _) (by decide) rfl ?_
                    refine r_goto (tgt := 73) dX12_repair_180 (by decide) ?_
                    have e9 : p = x_sy (z 0) T m := by
                      first
                        | exact x_sy_eq (by omega) h1 (fun q => absurd q (by omega)) (z_gd hz) hm4
                        | exact x_sy_eq (by omega) h1 (fun _ => c112) (z_gd hz) hm4
                    replace hO := m_O_eq hO (m_eq_fr hf1 (by omega))
                    replace h3 := (congrFun (hf1 212 (by omega)) 3).trans h3
                    replace hf := s_fr_tr hf (s_fr_w hf1 (by omega) (by omega))
                    subst e9
                    refine ih (m + 1) _ _ s hM (m_t0_fr ht hf1 (Or.inr (by omega))) (fun j hj5 => ?_) (fun q hq hqk => ?_) hO h3 hf (by omega) (by omega)
                    · rw [hf1 222 (by omega), ← x_kg_e (z_gd hz) hm4]; exact hg j hj5
                    · rw [hf1 223 (by omega)]; exact hE q hq ((x_kb_e (z_gd hz) hm4 hq).mpr hqk)
                  · have hod := x_od hw hm4 c95
                    have hop := x_op hw hod.1
                    have htb := x_t0_bd (z_gd hz) hod.1
                    refine r_aload_n dX12_repair_98 rfl rfl ?_
                    refine s_getR dX12_repair_99 fX12_29 lysX12 rfl ?_
                    refine r_aload_n dX12_repair_102 rfl rfl ?_
                    refine r_iload dX12_repair_103 rfl ?_
                    refine r_iload dX12_repair_105 rfl ?_
                    refine s_V2I mX12_ordered dX12_repair_107 okX12_ordered lX12_142 npX12_ordered lysX12 rfl (by decide) (by decide) (by decide) (Nat.le_of_ble_eq_true rfl) (Nat.le_of_ble_eq_true rfl) (c_ordered hM (by omega) (by omega)) (fun x s1 hq => ?_)
                    obtain ⟨rfl, rfl⟩ := hq
                    rw [x_kq_lo (by omega)]
                    refine a_ld dX12_repair_110 rfl (by omega) (by decide) (ht _ hod.1).1 ?_
                    refine r_iload_n dX12_repair_111 rfl rfl ?_
                    refine n_cge (tgt := 164) dX12_repair_112 (by decide) (by omega) (by omega) (fun c112 => ?_) (fun c112 => ?_)
                    · refine r_aload_n dX12_repair_164 rfl rfl ?_
                      refine s_getR dX12_repair_165 fX12_9 lysX12 rfl ?_
                      refine n_sip 179 dX12_repair_168 (by decide) ?_
                      refine r_iload dX12_repair_171 rfl ?_
                      refine n_add dX12_repair_173 ?_
                      refine r_iload dX12_repair_174 rfl ?_
                      refine m_st dX12_repair_176 hM (by omega) (fun s hM hf1 => ?_)
                      skip
                      refine n_inc dX12_repair_177 rfl (n_i1 _) (by decide) rfl ?_
                      refine r_goto (tgt := 73) dX12_repair_180 (by decide) ?_
                      have e9 : p = x_sy (z 0) T m := by
                        first
                          | exact x_sy_eq (by omega) h1 (fun q => absurd q (by omega)) (z_gd hz) hm4
                          | exact x_sy_eq (by omega) h1 (fun _ => c112) (z_gd hz) hm4
                      replace hO := m_O_eq hO (m_eq_fr hf1 (by omega))
                      replace h3 := (congrFun (hf1 212 (by omega)) 3).trans h3
                      replace hf := s_fr_tr hf (s_fr_w hf1 (by omega) (by omega))
                      subst e9
                      refine ih (m + 1) _ _ s hM (m_t0_fr ht hf1 (Or.inr (by omega))) (fun j hj5 => ?_) (fun q hq hqk => ?_) hO h3 hf (by omega) (by omega)
                      · rw [hf1 222 (by omega), ← x_kg_e (z_gd hz) hm4]; exact hg j hj5
                      · rw [hf1 223 (by omega)]; exact hE q hq ((x_kb_e (z_gd hz) hm4 hq).mpr hqk)
                    · have hkl := x_ct_le (K := fun o => decide (z 0 (42 + o) = z 0 (42 + (z 0 (183 + 5 * m + p))) ∧ x_t0 (z 0) o < T ∧ (z 0 (62 + o) < m ∨ (z 0 (62 + o) = m ∧ x_po (z 0) o < p)))) (z 0 1)
                      have hkl2 : x_kg (z 0) T m p (z 0 (42 + (z 0 (183 + 5 * m + p)))) ≤ z 0 1 := hkl
                      refine r_aload_n dX12_repair_115 rfl rfl ?_
                      refine r_iload dX12_repair_116 rfl ?_
                      refine r_iload dX12_repair_118 rfl ?_
                      refine s_V2I mX12_ordered dX12_repair_120 okX12_ordered lX12_142 npX12_ordered lysX12 rfl (by decide) (by decide) (by decide) (Nat.le_of_ble_eq_true rfl) (Nat.le_of_ble_eq_true rfl) (c_ordered hM (by omega) (by omega)) (fun x s1 hq => ?_)
                      obtain ⟨rfl, rfl⟩ := hq
                      rw [x_kq_lo (by omega)]
                      refine r_istore dX12_repair_123 (by decide) rfl ?_
                      refine r_aload_n dX12_repair_125 rfl rfl ?_
                      refine s_getR dX12_repair_126 fX12_46 lysX12 rfl ?_
                      refine r_iload dX12_repair_129 rfl ?_
                      refine r_aload_n dX12_repair_131 rfl rfl ?_
                      refine s_getR dX12_repair_132 fX12_29 lysX12 rfl ?_
                      refine r_iload dX12_repair_135 rfl ?_
                      refine a_ld dX12_repair_137 rfl (by omega) (by decide) (ht _ hod.1).1 ?_
                      refine a_st dX12_repair_138 rfl (by omega) (by decide) (fun s2 hs2 hf2 => ?_)
                      replace hM := m_R_fr hM hf2 (Or.inl (by omega))
                      replace hO := m_O_eq hO (m_eq_fr hf2 (by omega))
                      replace h3 := (congrFun (hf2 212 (by omega)) 3).trans h3
                      replace hf := s_fr_tr hf (s_fr_w hf2 (by omega) (by omega))
                      replace ht := m_t0_fr ht hf2 (Or.inl (by omega))
                      refine r_aload_n dX12_repair_139 rfl rfl ?_
                      refine s_getR dX12_repair_140 fX12_43 lysX12 rfl ?_
                      refine r_aload_n dX12_repair_143 rfl rfl ?_
                      refine s_getR dX12_repair_144 fX12_9 lysX12 rfl ?_
                      refine n_bip 42 dX12_repair_147 (by decide) ?_
                      refine r_iload dX12_repair_149 rfl ?_
                      refine n_add dX12_repair_151 ?_
                      refine m_ld dX12_repair_152 hM (by omega) ?_
                      rw [x_kq_lo (by omega)]
                      refine r_dup2 dX12_repair_153 rfl rfl ?_
                      refine a_ld dX12_repair_154 rfl (by omega) (by decide) (show s2 222 (z 0 (42 + (z 0 (183 + 5 * m + p)))) = nI (x_kg (z 0) T m p (z 0 (42 + (z 0 (183 + 5 * m + p))))) by rw [hf2 222 (by omega)]; exact hg _ (by omega)) ?_
                      refine n_const 1 dX12_repair_155 (by decide) ?_
                      refine n_add dX12_repair_156 ?_
                      refine a_st dX12_repair_157 rfl (by omega) (by decide) (fun s3 hs3 hf3 => ?_)
                      replace hM := m_R_fr hM hf3 (Or.inl (by omega))
                      replace hO := m_O_eq hO (m_eq_fr hf3 (by omega))
                      replace h3 := (congrFun (hf3 212 (by omega)) 3).trans h3
                      replace hf := s_fr_tr hf (s_fr_w hf3 (by omega) (by omega))
                      replace ht := m_t0_fr ht hf3 (Or.inl (by omega))
                      refine n_inc dX12_repair_158 rfl (n_i1 _) (by decide) rfl ?_
                      refine r_goto (tgt := 82) dX12_repair_161 (by decide) ?_
                      refine ih2 (p + 1) _ s3 hM ht (fun q hq => ?_) (fun j hj5 => ?_) (fun q hq hqk => ?_) hO h3 hf (by omega) (by omega)
                      · by_cases e : q = p
                        · subst e; exact c112
                        · exact h1 q (by omega)
                      · rw [hs3, x_kg_s (z_gd hz) hm4 c95 c112]
                        by_cases e : j = z 0 (42 + (z 0 (183 + 5 * m + p)))
                        · subst e; rw [pk_us, if_pos rfl]
                        · rw [pk_un e, if_neg (fun z9 => e z9.symm), Nat.add_zero, hf2 222 (by omega)]; exact hg j hj5
                      · rw [hf3 223 (by omega), hs2]
                        by_cases e : q = (z 0 (183 + 5 * m + p))
                        · subst e; rw [pk_us]
                        · rw [pk_un e]; exact hE q hq (((x_kb_s (z_gd hz) hm4 c95 hq c112).mp hqk).resolve_right e)
              exact l3 (z 0 (179 + m) + 1) 0 _ s1 hM ht (fun q hq => absurd hq (by omega)) hg hE hO h3 hf (by omega) (by omega)
        have l1 : ∀ f j s1, m_R (z 0) s1 → m_t0 (z 0) s1 → (∀ q, q < j → s1 222 q = nI 0) → m_O z s1 → s1 212 3 = nI 0 → s_fr 212 234 s s1 → j ≤ 5 → 5 < j + f → s_W G mX12_repair 8 0 0 (m_P (A_repair z (nI T) (nI rl)) s) 50 [some (.ref 212), some (.int (nI T)), some (.int (nI rl)), some (.int (nI 0)), some (.int (nI j)), none, none] [] s1 := by
          intro f
          induction f with
          | zero =>
            intro j s1 hM ht hg hO h3 hf hj hme
            exact absurd hme (by omega)
          | succ f ih =>
            intro j s1 hM ht hg hO h3 hf hj hme
            refine r_iload dX12_repair_50 rfl ?_
            refine n_const 5 dX12_repair_52 (by decide) ?_
            refine n_cge (tgt := 70) dX12_repair_53 (by decide) (by omega) (by omega) (fun c53 => ?_) (fun c53 => ?_)
            · refine n_const 0 dX12_repair_70 (by decide) ?_
              refine r_istore dX12_repair_71 (by decide) rfl ?_
              have e9 : j = 5 := by omega
              subst e9
              exact l2 5 0 _ _ s1 hM ht (fun j hj => by rw [x_kg_0]; exact hg j hj) (fun q hq hqk => absurd hqk.2 (by omega)) hO h3 hf (by omega) (by omega)
            · refine r_aload_n dX12_repair_56 rfl rfl ?_
              refine s_getR dX12_repair_57 fX12_43 lysX12 rfl ?_
              refine r_iload dX12_repair_60 rfl ?_
              refine n_const 0 dX12_repair_62 (by decide) ?_
              refine a_st dX12_repair_63 rfl (by omega) (by decide) (fun s2 hs2 hf2 => ?_)
              replace hM := m_R_fr hM hf2 (Or.inl (by omega))
              replace hO := m_O_eq hO (m_eq_fr hf2 (by omega))
              replace h3 := (congrFun (hf2 212 (by omega)) 3).trans h3
              replace hf := s_fr_tr hf (s_fr_w hf2 (by omega) (by omega))
              replace ht := m_t0_fr ht hf2 (Or.inl (by omega))
              refine n_inc dX12_repair_64 rfl (n_i1 _) (by decide) rfl ?_
              refine r_goto (tgt := 50) dX12_repair_67 (by decide) ?_
              refine ih (j + 1) s2 hM ht (fun q hq => ?_) hO h3 hf (by omega) (by omega)
              rw [hs2]
              by_cases e : q = j
              · subst e; rw [pk_us]
              · rw [pk_un e]; exact hg q (by omega)
        exact l1 6 0 s1 hM ht (fun q hq => absurd hq (by omega)) hO h3 hf (by omega) (by omega)
      · exact absurd c37 (by decide)
set_option maxRecDepth 20000 in
set_option maxHeartbeats 1000000 in
theorem m_bound {G : q_G} {s : s_T} {z : z_T} (hz : z_wf z) (hM : m_R (z 0) s) (hO : m_O z s) {m : Int32} : s_W G mX12_bound 8 0 0 (m_P (A_bound z m) s) 0 (q_ent mX12_bound [.ref 212, .int m]) [] s := by
  show s_W G mX12_bound 8 0 0 _ 0 [some (.ref 212), some (.int m)] [] s
  have hw := hz.1.1
  have hs := x_sz hw
  have hf : s_fr 212 234 s s := s_fr_rf
  refine r_aload_n dX12_bound_0 rfl rfl ?_
  refine r_iload_n dX12_bound_1 rfl rfl ?_
  refine s_S1I mX12_isMachine dX12_bound_2 okX12_isMachine lX12_122 npX12_isMachine (by decide) (by decide) (by decide) (Nat.le_of_ble_eq_true rfl) (Nat.le_of_ble_eq_true rfl) c_mIsMachine (fun x s1 hq => ?_)
  obtain ⟨rfl, rfl⟩ := hq
  refine b_ifeq (tgt := 12) dX12_bound_5 (by decide) (fun c5 => ?_) (fun c5 => ?_)
  · refine n_const 1 dX12_bound_12 (by decide) ?_
    refine a_put dX12_bound_13 gX12_79 lysX12 rfl rfl rfl (fun s1 hs1 hf1 => ?_)
    have h3 := (congrFun hs1 3).trans pk_us
    have hM := m_R_fr hM hf1 (Or.inr (by omega))
    have hO := m_O_eq hO (m_eq_put hs1 hf1 (by decide))
    have hf := s_fr_tr hf (s_fr_w (lo' := 212) (hi' := 234) hf1 (by omega) (by omega))
    refine r_aload_n dX12_bound_16 rfl rfl ?_
    refine s_getI dX12_bound_17 fX12_79 lysX12 rfl h3 ?_
    refine n_ifle (tgt := 27) dX12_bound_20 (by decide) (by omega) (fun c20 => ?_) (fun c20 => ?_)
    · exact absurd c20 (by decide)
    · refine n_const 0 dX12_bound_23 (by decide) ?_
      refine r_goto (tgt := 32) dX12_bound_24 (by decide) ?_
      refine s_iret dX12_bound_32 rfl rfl ?_
      first
        | exact m_P_e (by unfold A_bound; simp [*]) (by decide) h3 hM hO hf
        | exact m_P_s (by unfold A_bound; simp [*]) h3 hM hO hf
        | exact m_P_x (by unfold A_bound; simp [*]) h3 hM hO hf
  · obtain ⟨m, rfl, hm, hm2⟩ := iLt_n c5
    have em := iN_n hm2
    refine n_const 0 dX12_bound_8 (by decide) ?_
    refine r_goto (tgt := 13) dX12_bound_9 (by decide) ?_
    refine a_put dX12_bound_13 gX12_79 lysX12 rfl rfl rfl (fun s1 hs1 hf1 => ?_)
    have h3 := (congrFun hs1 3).trans pk_us
    have hM := m_R_fr hM hf1 (Or.inr (by omega))
    have hO := m_O_eq hO (m_eq_put hs1 hf1 (by decide))
    have hf := s_fr_tr hf (s_fr_w (lo' := 212) (hi' := 234) hf1 (by omega) (by omega))
    refine r_aload_n dX12_bound_16 rfl rfl ?_
    refine s_getI dX12_bound_17 fX12_79 lysX12 rfl h3 ?_
    refine n_ifle (tgt := 27) dX12_bound_20 (by decide) (by omega) (fun c20 => ?_) (fun c20 => ?_)
    · refine r_aload_n dX12_bound_27 rfl rfl ?_
      refine r_iload_n dX12_bound_28 rfl rfl ?_
      refine s_V1I mX12_boundOf dX12_bound_29 okX12_boundOf lX12_276 npX12_boundOf lysX12 rfl (by decide) (by decide) (by decide) (Nat.le_of_ble_eq_true rfl) (Nat.le_of_ble_eq_true rfl) (c_boundOf hM hw (by omega)) (fun x s1 hq => ?_)
      obtain ⟨rfl, hf1⟩ := hq
      replace hM := m_R_fr hM hf1 (Or.inl (by omega))
      replace hO := m_O_eq hO (m_eq_fr hf1 (by omega))
      replace h3 := (congrFun (hf1 212 (by omega)) 3).trans h3
      replace hf := s_fr_tr hf (s_fr_w hf1 (by omega) (by omega))
      refine s_iret dX12_bound_32 rfl rfl ?_
      first
        | exact m_P_e (by unfold A_bound; simp [*]) (by decide) h3 hM hO hf
        | exact m_P_s (by unfold A_bound; simp [*]) h3 hM hO hf
        | exact m_P_x (by unfold A_bound; simp [*]) h3 hM hO hf
    · exact absurd c20 (by decide)
set_option maxRecDepth 20000 in
set_option maxHeartbeats 1000000 in
theorem m_lowerBound {G : q_G} {s : s_T} {z : z_T} (hz : z_wf z) (hM : m_R (z 0) s) (hO : m_O z s) : s_W G mX12_lowerBound 8 0 0 (m_P (A_lowerBound z) s) 0 (q_ent mX12_lowerBound [.ref 212]) [] s := by
  show s_W G mX12_lowerBound 8 0 0 _ 0 [some (.ref 212), none, none] [] s
  have hw := hz.1.1
  have hs := x_sz hw
  have hf : s_fr 212 234 s s := s_fr_rf
  refine r_aload_n dX12_lowerBound_0 rfl rfl ?_
  refine n_const 0 dX12_lowerBound_1 (by decide) ?_
  refine a_put dX12_lowerBound_2 gX12_79 lysX12 rfl rfl rfl (fun s1 hs1 hf1 => ?_)
  have h3 := (congrFun hs1 3).trans pk_us
  have hM := m_R_fr hM hf1 (Or.inr (by omega))
  have hO := m_O_eq hO (m_eq_put hs1 hf1 (by decide))
  have hf := s_fr_tr hf (s_fr_w (lo' := 212) (hi' := 234) hf1 (by omega) (by omega))
  refine n_const 0 dX12_lowerBound_5 (by decide) ?_
  refine r_istore_n dX12_lowerBound_6 rfl (by decide) rfl ?_
  refine n_const 0 dX12_lowerBound_7 (by decide) ?_
  refine r_istore_n dX12_lowerBound_8 rfl (by decide) rfl ?_
  have l1 : ∀ f m s1, m_R (z 0) s1 → m_O z s1 → s1 212 3 = nI 0 → s_fr 212 234 s s1 → m ≤ 4 → 4 < m + f → s_W G mX12_lowerBound 8 0 0 (m_P (A_lowerBound z) s) 9 [some (.ref 212), some (.int (nI (x_mb (z 0) m))), some (.int (nI m))] [] s1 := by
    intro f
    induction f with
    | zero =>
      intro m s1 hM hO h3 hf hm hme
      exact absurd hme (by omega)
    | succ f ih =>
      intro m s1 hM hO h3 hf hm hme
      have hml := x_mb_le (x_wf_y hw) m
      refine r_iload_n dX12_lowerBound_9 rfl rfl ?_
      refine n_const 4 dX12_lowerBound_10 (by decide) ?_
      refine n_cge (tgt := 30) dX12_lowerBound_11 (by decide) (by omega) (by omega) (fun c11 => ?_) (fun c11 => ?_)
      · refine n_const 0 dX12_lowerBound_30 (by decide) ?_
        refine r_istore_n dX12_lowerBound_31 rfl (by decide) rfl ?_
        have e9 : m = 4 := by omega
        subst e9
        have l2 : ∀ f9 j, j ≤ z 0 0 → z 0 0 < j + f9 → s_W G mX12_lowerBound 8 0 0 (m_P (A_lowerBound z) s) 32 [some (.ref 212), some (.int (nI (x_jm (z 0) (x_mb (z 0) 4) j))), some (.int (nI j))] [] s1 := by
          intro f9
          induction f9 with
          | zero =>
            intro j hj hme
            exact absurd hme (by omega)
          | succ f9 ih =>
            intro j hj hme
            have hjl := x_jm_le (x_wf_y hw) (x_mb_le (x_wf_y hw) 4) j hj
            refine r_iload_n dX12_lowerBound_32 rfl rfl ?_
            refine r_aload_n dX12_lowerBound_33 rfl rfl ?_
            refine s_getR dX12_lowerBound_34 fX12_9 lysX12 rfl ?_
            refine n_const 0 dX12_lowerBound_37 (by decide) ?_
            refine m_ld dX12_lowerBound_38 hM (by omega) ?_
            refine n_cge (tgt := 84) dX12_lowerBound_39 (by decide) (by omega) (by omega) (fun c39 => ?_) (fun c39 => ?_)
            · refine r_iload_n dX12_lowerBound_84 rfl rfl ?_
              refine s_iret dX12_lowerBound_85 rfl rfl ?_
              have e9 : j = z 0 0 := by omega
              subst e9
              exact m_P_s rfl h3 hM hO hf
            · have hjb := x_jb hw c39
              have hwk := x_wk_le (x_wf_y hw) c39 (a := 0) (n := z 0 (17 + j)) (by omega)
              refine r_aload_n dX12_lowerBound_42 rfl rfl ?_
              refine s_getR dX12_lowerBound_43 fX12_9 lysX12 rfl ?_
              refine n_bip 17 dX12_lowerBound_46 (by decide) ?_
              refine r_iload_n dX12_lowerBound_48 rfl rfl ?_
              refine n_add dX12_lowerBound_49 ?_
              refine m_ld dX12_lowerBound_50 hM (by omega) ?_
              refine n_ifle (tgt := 78) dX12_lowerBound_51 (by decide) (by omega) (fun c51 => ?_) (fun c51 => ?_)
              · refine n_inc dX12_lowerBound_78 rfl (n_i1 _) (by decide) rfl ?_
                refine r_goto (tgt := 32) dX12_lowerBound_81 (by decide) ?_
                have q9 := ih (j + 1) (by omega) (by omega)
                first
                  | (rw [show x_jm (z 0) (x_mb (z 0) 4) (j + 1) = max (x_jm (z 0) (x_mb (z 0) 4) j) (z 0 (2 + j) + x_wk (z 0) j 0 (z 0 (17 + j))) by show (if _ then _ else _) = _; rw [if_neg (by omega)]] at q9
                     exact q9)
                  | (rw [show x_jm (z 0) (x_mb (z 0) 4) (j + 1) = x_jm (z 0) (x_mb (z 0) 4) j by show (if _ then _ else _) = _; rw [if_pos (by omega)]] at q9
                     exact q9)
              · refine r_iload_n dX12_lowerBound_54 rfl rfl ?_
                refine r_aload_n dX12_lowerBound_55 rfl rfl ?_
                refine s_getR dX12_lowerBound_56 fX12_9 lysX12 rfl ?_
                refine n_const 2 dX12_lowerBound_59 (by decide) ?_
                refine r_iload_n dX12_lowerBound_60 rfl rfl ?_
                refine n_add dX12_lowerBound_61 ?_
                refine m_ld dX12_lowerBound_62 hM (by omega) ?_
                refine r_aload_n dX12_lowerBound_63 rfl rfl ?_
                refine r_aload_n dX12_lowerBound_64 rfl rfl ?_
                refine r_iload_n dX12_lowerBound_65 rfl rfl ?_
                refine n_const 0 dX12_lowerBound_66 (by decide) ?_
                refine s_V2I mX12_sequence dX12_lowerBound_67 okX12_sequence lX12_110 npX12_sequence lysX12 rfl (by decide) (by decide) (by decide) (Nat.le_of_ble_eq_true rfl) (Nat.le_of_ble_eq_true rfl) (c_sequence hM (by omega) (by omega)) (fun x s1 hq => ?_)
                obtain ⟨rfl, rfl⟩ := hq
                have hrt := x_rt hw c39 (i := 0) (by omega)
                refine s_V1I mX12_restOf dX12_lowerBound_70 okX12_restOf lX12_232 npX12_restOf lysX12 rfl (by decide) (by decide) (by decide) (Nat.le_of_ble_eq_true rfl) (Nat.le_of_ble_eq_true rfl) (d_restOf hM (x_wf_y hw) hrt.1) (fun x s1 hq => ?_)
                obtain ⟨rfl, rfl⟩ := hq
                rw [show x_rs (z 0) (z 0 (22 + 4 * j + 0)) = x_wk (z 0) j 0 (z 0 (17 + j)) by unfold x_rs; rw [hrt.2.1, hrt.2.2]; rfl]
                refine n_add dX12_lowerBound_73 ?_
                refine r_mmax dX12_lowerBound_74 kwM_X12_max kwM_static_max kwM_ini kwM_code_max (by decide) (Nat.le_of_ble_eq_true rfl) ?_
                rw [nI_max (by omega) (by omega)]
                refine r_istore_n dX12_lowerBound_77 rfl (by decide) rfl ?_
                refine n_inc dX12_lowerBound_78 rfl (n_i1 _) (by decide) rfl ?_
                refine r_goto (tgt := 32) dX12_lowerBound_81 (by decide) ?_
                have q9 := ih (j + 1) (by omega) (by omega)
                first
                  | (rw [show x_jm (z 0) (x_mb (z 0) 4) (j + 1) = max (x_jm (z 0) (x_mb (z 0) 4) j) (z 0 (2 + j) + x_wk (z 0) j 0 (z 0 (17 + j))) by show (if _ then _ else _) = _; rw [if_neg (by omega)]] at q9
                     exact q9)
                  | (rw [show x_jm (z 0) (x_mb (z 0) 4) (j + 1) = x_jm (z 0) (x_mb (z 0) 4) j by show (if _ then _ else _) = _; rw [if_pos (by omega)]] at q9
                     exact q9)
        exact l2 (z 0 0 + 1) 0 (by omega) (by omega)
      · refine r_iload_n dX12_lowerBound_14 rfl rfl ?_
        refine r_aload_n dX12_lowerBound_15 rfl rfl ?_
        refine r_iload_n dX12_lowerBound_16 rfl rfl ?_
        refine s_V1I mX12_boundOf dX12_lowerBound_17 okX12_boundOf lX12_276 npX12_boundOf lysX12 rfl (by decide) (by decide) (by decide) (Nat.le_of_ble_eq_true rfl) (Nat.le_of_ble_eq_true rfl) (c_boundOf hM hw (by omega)) (fun x s1 hq => ?_)
        obtain ⟨rfl, hf1⟩ := hq
        have hdl := x_bd_le (x_wf_y hw) (m := m)
        replace hM := m_R_fr hM hf1 (Or.inl (by omega))
        replace hO := m_O_eq hO (m_eq_fr hf1 (by omega))
        replace h3 := (congrFun (hf1 212 (by omega)) 3).trans h3
        replace hf := s_fr_tr hf (s_fr_w hf1 (by omega) (by omega))
        refine r_mmax dX12_lowerBound_20 kwM_X12_max kwM_static_max kwM_ini kwM_code_max (by decide) (Nat.le_of_ble_eq_true rfl) ?_
        rw [nI_max (by omega) (by omega)]
        refine r_istore_n dX12_lowerBound_23 rfl (by decide) rfl ?_
        refine n_inc dX12_lowerBound_24 rfl (n_i1 _) (by decide) rfl ?_
        refine r_goto (tgt := 9) dX12_lowerBound_27 (by decide) ?_
        exact ih (m + 1) _ hM hO h3 hf (by omega) (by omega)
  exact l1 5 0 s1 hM hO h3 hf (by omega) (by omega)
end
