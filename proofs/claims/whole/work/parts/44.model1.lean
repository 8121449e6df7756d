set_option maxRecDepth 20000 in
set_option maxHeartbeats 1000000 in
theorem c_free {G : q_G} {s : s_T} {X : x_T} {m t0 d : Nat} (hM : m_R X s) (hw : x_wf X) (hm : m < 4) (ht0 : t0 ≤ 1000000) (hd : d ≤ 30) : s_W G mX12_free 1 0 0 (c_I (fun x s1 => s1 = s ∧ x = nI (x_fr X m d t0))) 0 (q_ent mX12_free [.ref 212, .int (nI m), .int (nI t0), .int (nI d)]) [] s := by
  show s_W G mX12_free 1 0 0 _ 0 [some (.ref 212), some (.int (nI m)), some (.int (nI t0)), some (.int (nI d)), none, none, none, none, none] [] s
  have hn := x_mn hw hm
  have outer : ∀ f t e (L6 L7 L8 : Option Value), e ≤ 1 → (e = 0 → x_pa X m d t = t) → x_fr X m d t = x_fr X m d t0 → t ≤ 1000000 → (e = 1 → x_cn X m (X (151 + m)) 0 t < f) → s_W G mX12_free 1 0 0 (c_I (fun x s1 => s1 = s ∧ x = nI (x_fr X m d t0))) 6 [some (.ref 212), some (.int (nI m)), some (.int (nI t0)), some (.int (nI d)), some (.int (nI t)), some (.int (nI e)), L6, L7, L8] [] s := by
    intro f
    induction f with
    | zero =>
      intro t e L6 L7 L8 he h0 hfr ht hcn
      refine r_iload dX12_free_6 rfl ?_
      refine n_ifeq (tgt := 101) dX12_free_8 (by decide) (by omega) (fun c8 => ?_) (fun c8 => ?_)
      · refine r_iload dX12_free_101 rfl ?_
        refine s_iret dX12_free_103 rfl rfl ?_
        refine ⟨_, rfl, rfl, ?_⟩
        rw [← hfr, x_fr_fix (h0 c8)]
      · exact absurd (hcn (by omega)) (by omega)
    | succ f ih =>
      intro t e L6 L7 L8 he h0 hfr ht hcn
      refine r_iload dX12_free_6 rfl ?_
      refine n_ifeq (tgt := 101) dX12_free_8 (by decide) (by omega) (fun c8 => ?_) (fun c8 => ?_)
      · refine r_iload dX12_free_101 rfl ?_
        refine s_iret dX12_free_103 rfl rfl ?_
        refine ⟨_, rfl, rfl, ?_⟩
        rw [← hfr, x_fr_fix (h0 c8)]
      · refine n_const 0 dX12_free_11 (by decide) ?_
        refine r_istore dX12_free_12 (by decide) rfl ?_
        refine n_const 0 dX12_free_14 (by decide) ?_
        refine r_istore dX12_free_15 (by decide) rfl ?_
        have inner : ∀ f2 i t2 e (L7 L8 : Option Value), i ≤ X (151 + m) → X (151 + m) < i + f2 → t2 ≤ 1000000 → (e ≤ 1 ∧ (e = 0 → t2 = t) ∧ (e = 1 → t < t2)) → t ≤ t2 → x_ps X m d (X (151 + m) - i) i t2 = x_pa X m d t → s_W G mX12_free 1 0 0 (c_I (fun x s1 => s1 = s ∧ x = nI (x_fr X m d t0))) 17 [some (.ref 212), some (.int (nI m)), some (.int (nI t0)), some (.int (nI d)), some (.int (nI t2)), some (.int (nI e)), some (.int (nI i)), L7, L8] [] s := by
          generalize t = t1 at hfr hcn ⊢
          intro f2
          induction f2 with
          | zero => intro i t e L7 L8 h1 h2; exact absurd h2 (by omega)
          | succ f2 ih2 =>
            intro i t e L7 L8 h3 h4 ht he2 hle hR
            refine r_iload dX12_free_17 rfl ?_
            refine r_aload_n dX12_free_19 rfl rfl ?_
            refine s_getR dX12_free_20 fX12_9 lysX12 rfl ?_
            refine n_sip 151 dX12_free_23 (by decide) ?_
            refine r_iload_n dX12_free_26 rfl rfl ?_
            refine n_add dX12_free_27 ?_
            refine m_ld dX12_free_28 hM (by omega) ?_
            refine n_cge (tgt := 98) dX12_free_29 (by decide) (by omega) (by omega) (fun c29 => ?_) (fun c29 => ?_)
            · have e9 : i = X (151 + m) := by omega
              subst e9
              refine r_goto (tgt := 6) dX12_free_98 (by decide) ?_
              rw [Nat.sub_self] at hR
              have hR : t = x_ps X m d (X (151 + m)) 0 t1 := hR
              refine ih t e _ _ _ he2.1 (fun q => ?_) ?_ ht (fun q => ?_)
              · have q1 := he2.2.1 q
                rw [← q1] at hR
                exact hR.symm
              · rw [hR, x_fr_pa]
                exact hfr
              · have q1 := he2.2.2 q
                have q2 := x_ps_cn (X := X) (m := m) (d := d) (X (151 + m)) 0 t1 (by omega)
                have q3 : x_cn X m (X (151 + m)) 0 t < x_cn X m (X (151 + m)) 0 t1 := by rw [hR]; exact q2
                omega
            · have hbr := x_br hw hm c29
              refine r_aload_n dX12_free_32 rfl rfl ?_
              refine s_getR dX12_free_33 fX12_9 lysX12 rfl ?_
              refine n_sip 155 dX12_free_36 (by decide) ?_
              refine n_const 3 dX12_free_39 (by decide) ?_
              refine r_iload_n dX12_free_40 rfl rfl ?_
              refine n_mul dX12_free_41 ?_
              refine n_add dX12_free_42 ?_
              refine r_iload dX12_free_43 rfl ?_
              refine n_add dX12_free_45 ?_
              refine m_ld dX12_free_46 hM (by omega) ?_
              refine r_istore dX12_free_47 (by decide) rfl ?_
              refine r_iload dX12_free_49 rfl ?_
              refine r_aload_n dX12_free_51 rfl rfl ?_
              refine s_getR dX12_free_52 fX12_9 lysX12 rfl ?_
              refine n_sip 167 dX12_free_55 (by decide) ?_
              refine n_const 3 dX12_free_58 (by decide) ?_
              refine r_iload_n dX12_free_59 rfl rfl ?_
              refine n_mul dX12_free_60 ?_
              refine n_add dX12_free_61 ?_
              refine r_iload dX12_free_62 rfl ?_
              refine n_add dX12_free_64 ?_
              refine m_ld dX12_free_65 hM (by omega) ?_
              refine n_add dX12_free_66 ?_
              refine r_istore dX12_free_67 (by decide) rfl ?_
              refine r_iload dX12_free_69 rfl ?_
              refine r_iload dX12_free_71 rfl ?_
              refine r_iload_n dX12_free_73 rfl rfl ?_
              refine n_add dX12_free_74 ?_
              refine n_cge (tgt := 92) dX12_free_75 (by decide) (by omega) (by omega) (fun c75 => ?_) (fun c75 => ?_)
              · refine n_inc dX12_free_92 rfl (n_i1 _) (by decide) rfl ?_
                refine r_goto (tgt := 17) dX12_free_95 (by decide) ?_
                refine ih2 (i + 1) _ _ _ _ (by omega) (by omega) ?_ ?_ ?_ ?_
                · omega
                · omega
                · omega
                · rw [← hR]
                  have e9 : X (151 + m) - i = (X (151 + m) - (i + 1)) + 1 := by omega
                  rw [e9]
                  show _ = x_ps X m d _ (i + 1) (x_bs X m d i t)
                  unfold x_bs
                  first
                    | rw [if_pos (by omega)]
                    | rw [if_neg (by omega)]
              · refine r_iload dX12_free_78 rfl ?_
                refine r_iload dX12_free_80 rfl ?_
                refine n_cge (tgt := 92) dX12_free_82 (by decide) (by omega) (by omega) (fun c82 => ?_) (fun c82 => ?_)
                · refine n_inc dX12_free_92 rfl (n_i1 _) (by decide) rfl ?_
                  refine r_goto (tgt := 17) dX12_free_95 (by decide) ?_
                  refine ih2 (i + 1) _ _ _ _ (by omega) (by omega) ?_ ?_ ?_ ?_
                  · omega
                  · omega
                  · omega
                  · rw [← hR]
                    have e9 : X (151 + m) - i = (X (151 + m) - (i + 1)) + 1 := by omega
                    rw [e9]
                    show _ = x_ps X m d _ (i + 1) (x_bs X m d i t)
                    unfold x_bs
                    first
                      | rw [if_pos (by omega)]
                      | rw [if_neg (by omega)]
                · refine r_iload dX12_free_85 rfl ?_
                  refine r_istore dX12_free_87 (by decide) rfl ?_
                  refine n_const 1 dX12_free_89 (by decide) ?_
                  refine r_istore dX12_free_90 (by decide) rfl ?_
                  refine n_inc dX12_free_92 rfl (n_i1 _) (by decide) rfl ?_
                  refine r_goto (tgt := 17) dX12_free_95 (by decide) ?_
                  refine ih2 (i + 1) _ _ _ _ (by omega) (by omega) ?_ ?_ ?_ ?_
                  · omega
                  · omega
                  · omega
                  · rw [← hR]
                    have e9 : X (151 + m) - i = (X (151 + m) - (i + 1)) + 1 := by omega
                    rw [e9]
                    show _ = x_ps X m d _ (i + 1) (x_bs X m d i t)
                    unfold x_bs
                    first
                      | rw [if_pos (by omega)]
                      | rw [if_neg (by omega)]
        exact inner (X (151 + m) + 1) 0 t 0 _ _ (by omega) (by omega) ht ⟨by omega, fun _ => rfl, fun q => absurd q (by decide)⟩ (Nat.le_refl _) rfl
  refine r_iload_n dX12_free_0 rfl rfl ?_
  refine r_istore dX12_free_1 (by decide) rfl ?_
  refine n_const 1 dX12_free_3 (by decide) ?_
  refine r_istore dX12_free_4 (by decide) rfl ?_
  exact outer (X (151 + m) + 1) t0 1 none none none (by omega) (fun q => absurd q (by decide)) rfl ht0 (fun _ => by have := x_cn_le (X := X) (m := m) (X (151 + m)) 0 t0; omega)
set_option maxRecDepth 20000 in
set_option maxHeartbeats 1000000 in
theorem c_before {G : q_G} {s : s_T} {X : x_T} {k : Nat} (hM : m_R X s) (hw : x_wf X) (hk : k < X 1) : s_W G mX12_before 2 0 0 (c_I (fun y9 s1 => s1 = s ∧ y9 = oI (if X (122 + k) = 0 then none else some (X (22 + 4 * X (42 + k) + (X (122 + k) - 1)))))) 0 (q_ent mX12_before [.ref 212, .int (nI k)]) [] s := by
  show s_W G mX12_before 2 0 0 _ 0 [some (.ref 212), some (.int (nI k)), none] [] s
  have hk2 := x_op hw hk
  refine r_aload_n dX12_before_0 rfl rfl ?_
  refine s_getR dX12_before_1 fX12_9 lysX12 rfl ?_
  refine n_bip 122 dX12_before_4 (by decide) ?_
  refine r_iload_n dX12_before_6 rfl rfl ?_
  refine n_add dX12_before_7 ?_
  refine m_ld dX12_before_8 hM (by omega) ?_
  refine r_istore_n dX12_before_9 rfl (by decide) rfl ?_
  refine r_iload_n dX12_before_10 rfl rfl ?_
  refine n_ifne (tgt := 18) dX12_before_11 (by decide) (by omega) (fun c11 => ?_) (fun c11 => ?_)
  · refine r_aload_n dX12_before_18 rfl rfl ?_
    refine r_aload_n dX12_before_19 rfl rfl ?_
    refine s_getR dX12_before_20 fX12_9 lysX12 rfl ?_
    refine n_bip 42 dX12_before_23 (by decide) ?_
    refine r_iload_n dX12_before_25 rfl rfl ?_
    refine n_add dX12_before_26 ?_
    refine m_ld dX12_before_27 hM (by omega) ?_
    refine r_iload_n dX12_before_28 rfl rfl ?_
    refine n_const 1 dX12_before_29 (by decide) ?_
    refine n_sub dX12_before_30 (by omega) ?_
    refine s_V2I mX12_sequence dX12_before_31 okX12_sequence lX12_110 npX12_sequence lysX12 rfl (by decide) (by decide) (by decide) (Nat.le_of_ble_eq_true rfl) (Nat.le_of_ble_eq_true rfl) (c_sequence hM (by omega) (by omega)) (fun x s1 hq => ?_)
    obtain ⟨rfl, rfl⟩ := hq
    refine s_iret dX12_before_34 rfl rfl ?_
    first | (rw [if_pos (by omega)]; exact ⟨_, rfl, rfl, rfl⟩) | (rw [if_neg (by omega)]; exact ⟨_, rfl, rfl, rfl⟩)
  · refine r_iconst (v := -1) dX12_before_14 (by decide) ?_
    refine r_goto (tgt := 34) dX12_before_15 (by decide) ?_
    refine s_iret dX12_before_34 rfl rfl ?_
    first | (rw [if_pos (by omega)]; exact ⟨_, rfl, rfl, rfl⟩) | (rw [if_neg (by omega)]; exact ⟨_, rfl, rfl, rfl⟩)
/-- which machines are open, as the reference's row has it -/
def m_op (op : Nat → Bool) (s : s_T) : Prop := ∀ m, m < 4 → s 220 m = bI (op m)
set_option maxRecDepth 20000 in
set_option maxHeartbeats 1000000 in
theorem c_ahead {G : q_G} {s : s_T} {X : x_T} {op : Nat → Bool} {k p0 : Nat} (hM : m_R X s) (hop : m_op op s) (hw : x_wf X) (hk : k < X 1) (hp0 : p0 < X (179 + X (62 + k))) (he : X (183 + 5 * X (62 + k) + p0) = k) : s_W G mX12_ahead 3 0 0 (c_I (fun y9 s1 => s1 = s ∧ y9 = oI (if op (X (62 + k)) = true ∨ p0 = 0 then none else some (X (183 + 5 * X (62 + k) + (p0 - 1)))))) 0 (q_ent mX12_ahead [.ref 212, .int (nI k)]) [] s := by
  show s_W G mX12_ahead 3 0 0 _ 0 [some (.ref 212), some (.int (nI k)), none, none] [] s
  have hk2 := x_op hw hk
  have hn := x_mn hw hk2.2.2.2.2.2.2.1
  refine r_aload_n dX12_ahead_0 rfl rfl ?_
  refine s_getR dX12_ahead_1 fX12_9 lysX12 rfl ?_
  refine n_bip 62 dX12_ahead_4 (by decide) ?_
  refine r_iload_n dX12_ahead_6 rfl rfl ?_
  refine n_add dX12_ahead_7 ?_
  refine m_ld dX12_ahead_8 hM (by omega) ?_
  refine r_istore_n dX12_ahead_9 rfl (by decide) rfl ?_
  refine r_aload_n dX12_ahead_10 rfl rfl ?_
  refine s_getR dX12_ahead_11 fX12_32 lysX12 rfl ?_
  refine r_iload_n dX12_ahead_14 rfl rfl ?_
  refine a_zld dX12_ahead_15 rfl (by omega) (by decide) (hop _ (by omega)) ?_
  refine b_ifeq (tgt := 23) dX12_ahead_16 (by decide) (fun c16 => ?_) (fun c16 => ?_)
  · refine r_aload_n dX12_ahead_23 rfl rfl ?_
    refine r_iload_n dX12_ahead_24 rfl rfl ?_
    refine s_V1I mX12_positionOf dX12_ahead_25 okX12_positionOf lX12_147 npX12_positionOf lysX12 rfl (by decide) (by decide) (by decide) (Nat.le_of_ble_eq_true rfl) (Nat.le_of_ble_eq_true rfl) (c_mPositionOf hM hw hk hp0 he) (fun x s1 hq => ?_)
    obtain ⟨rfl, rfl⟩ := hq
    refine r_istore_n dX12_ahead_28 rfl (by decide) rfl ?_
    refine r_iload_n dX12_ahead_29 rfl rfl ?_
    refine n_ifne (tgt := 37) dX12_ahead_30 (by decide) (by omega) (fun c30 => ?_) (fun c30 => ?_)
    · refine r_aload_n dX12_ahead_37 rfl rfl ?_
      refine r_iload_n dX12_ahead_38 rfl rfl ?_
      refine r_iload_n dX12_ahead_39 rfl rfl ?_
      refine n_const 1 dX12_ahead_40 (by decide) ?_
      refine n_sub dX12_ahead_41 (by omega) ?_
      refine s_V2I mX12_ordered dX12_ahead_42 okX12_ordered lX12_142 npX12_ordered lysX12 rfl (by decide) (by decide) (by decide) (Nat.le_of_ble_eq_true rfl) (Nat.le_of_ble_eq_true rfl) (c_ordered hM (by omega) (by omega)) (fun x s1 hq => ?_)
      obtain ⟨rfl, rfl⟩ := hq
      refine s_iret dX12_ahead_45 rfl rfl ?_
      first
        | (rw [if_pos (Or.inl (by assumption))]; exact ⟨_, rfl, rfl, rfl⟩)
        | (rw [if_pos (Or.inr (by omega))]; exact ⟨_, rfl, rfl, rfl⟩)
        | (rw [if_neg (fun q => q.elim (fun q => by simp_all) (fun q => by omega))]; exact ⟨_, rfl, rfl, rfl⟩)
    · refine r_iconst (v := -1) dX12_ahead_33 (by decide) ?_
      refine r_goto (tgt := 45) dX12_ahead_34 (by decide) ?_
      refine s_iret dX12_ahead_45 rfl rfl ?_
      first
        | (rw [if_pos (Or.inl (by assumption))]; exact ⟨_, rfl, rfl, rfl⟩)
        | (rw [if_pos (Or.inr (by omega))]; exact ⟨_, rfl, rfl, rfl⟩)
        | (rw [if_neg (fun q => q.elim (fun q => by simp_all) (fun q => by omega))]; exact ⟨_, rfl, rfl, rfl⟩)
  · refine n_const 0 dX12_ahead_19 (by decide) ?_
    refine r_goto (tgt := 28) dX12_ahead_20 (by decide) ?_
    refine r_istore_n dX12_ahead_28 rfl (by decide) rfl ?_
    refine r_iload_n dX12_ahead_29 rfl rfl ?_
    refine n_ifne (tgt := 37) dX12_ahead_30 (by decide) (by omega) (fun c30 => ?_) (fun c30 => ?_)
    · exact absurd c30 (by decide)
    · refine r_iconst (v := -1) dX12_ahead_33 (by decide) ?_
      refine r_goto (tgt := 45) dX12_ahead_34 (by decide) ?_
      refine s_iret dX12_ahead_45 rfl rfl ?_
      first
        | (rw [if_pos (Or.inl (by assumption))]; exact ⟨_, rfl, rfl, rfl⟩)
        | (rw [if_pos (Or.inr (by omega))]; exact ⟨_, rfl, rfl, rfl⟩)
        | (rw [if_neg (fun q => q.elim (fun q => by simp_all) (fun q => by omega))]; exact ⟨_, rfl, rfl, rfl⟩)
