/-! ===== the class: the critical path, its blocks ===== -/
set_option maxRecDepth 20000 in
set_option maxHeartbeats 1000000 in
theorem c_collect {G : q_G} {s : s_T} {X : x_T} {o h g : Nat} (ho : isX7 o) (hh : isX10 h) (hc : isX2 g) (hC : c_R X s o) (hg : x_gd X) (ht : c_t0 X s h) (hd : h + 8 ≤ g) : s_W G mX2_collectBackwards 3 0 0 (c_V (fun s1 => s1 g 0 = nI (x_pl X) ∧ (∀ i, i < x_pl X → s1 (g + 1) i = nI (x_pb X i)) ∧ s_fr g (g + 2) s s1)) 0 (q_ent mX2_collectBackwards [.ref g, .ref o, .ref h]) [] s := by
  show s_W G mX2_collectBackwards 3 0 0 _ 0 [some (.ref g), some (.ref o), some (.ref h), none, none] [] s
  have hs := x_sz hg.1
  have ho2 := o7_le ho
  have hh3 := o10_le hh
  have hg3 := o2_le hc
  have lp : ∀ f i s1, s1 g 0 = nI i → (∀ j, j < i → x_bk X j ≠ none) → (∀ j, j < i → s1 (g + 1) j = nI (x_pb X j)) → s_fr g (g + 2) s s1 → i ≤ 20 → 20 < i + f → s_W G mX2_collectBackwards 3 0 0 (c_V (fun s1 => s1 g 0 = nI (x_pl X) ∧ (∀ i, i < x_pl X → s1 (g + 1) i = nI (x_pb X i)) ∧ s_fr g (g + 2) s s1)) 14 [some (.ref g), some (.ref o), some (.ref h), some (.int (oI (x_bk X i))), some (.int (nI i))] [] s1 := by
    intro f
    induction f with
    | zero =>
      intro i s1 h0 hno hA hf hi hme
      exact absurd hme (by omega)
    | succ f ih =>
      intro i s1 h0 hno hA hf hi hme
      have hC1 := c_R_fr hC hf (Or.inl (by omega)) hs.1
      have ht1 := c_t0_fr ht hf (Or.inl (by omega))
      cases hbq : x_bk X i with
      | none =>
        show s_W G mX2_collectBackwards 3 0 0 _ 14 [some (.ref g), some (.ref o), some (.ref h), some (.int (-1)), some (.int (nI i))] [] s1
        refine r_iload dX2_collectBackwards_14 rfl ?_
        refine n_bip 20 dX2_collectBackwards_16 (by decide) ?_
        refine n_cge (tgt := 59) dX2_collectBackwards_18 (by decide) (by omega) (by omega) (fun c18 => ?_) (fun c18 => ?_)
        · refine s_vret dX2_collectBackwards_59 rfl ?_
          have e9 := x_pl_eq (n := i) (by omega) hbq hno
          refine ⟨rfl, by rw [e9]; exact h0, fun j hj => hA j (by omega), hf⟩
        · refine r_iload_n dX2_collectBackwards_21 rfl rfl ?_
          refine r_iconst (v := -1) dX2_collectBackwards_22 (by decide) ?_
          refine r_icmp_eq (tgt := 59) dX2_collectBackwards_23 (by decide) (fun c23 => ?_) (fun c23 => ?_)
          · refine s_vret dX2_collectBackwards_59 rfl ?_
            have e9 := x_pl_eq (n := i) (by omega) hbq hno
            refine ⟨rfl, by rw [e9]; exact h0, fun j hj => hA j (by omega), hf⟩
          · exact absurd rfl c23
      | some q =>
        have hqb := x_bk_lt hg hbq
        show s_W G mX2_collectBackwards 3 0 0 _ 14 [some (.ref g), some (.ref o), some (.ref h), some (.int (nI q)), some (.int (nI i))] [] s1
        refine r_iload dX2_collectBackwards_14 rfl ?_
        refine n_bip 20 dX2_collectBackwards_16 (by decide) ?_
        refine n_cge (tgt := 59) dX2_collectBackwards_18 (by decide) (by omega) (by omega) (fun c18 => ?_) (fun c18 => ?_)
        · exact absurd c18 (by omega)
        · refine r_iload_n dX2_collectBackwards_21 rfl rfl ?_
          refine r_iconst (v := -1) dX2_collectBackwards_22 (by decide) ?_
          refine r_icmp_eq (tgt := 59) dX2_collectBackwards_23 (by decide) (fun c23 => ?_) (fun c23 => ?_)
          · exact absurd c23 (nI_m1 (by omega))
          · refine r_aload_n dX2_collectBackwards_26 rfl rfl ?_
            refine s_getR dX2_collectBackwards_27 fX2_9 (layX2 hc) rfl ?_
            refine r_aload_n dX2_collectBackwards_30 rfl rfl ?_
            refine s_getI dX2_collectBackwards_31 fX2_32 (layX2 hc) rfl h0 ?_
            refine r_iload_n dX2_collectBackwards_34 rfl rfl ?_
            refine a_st dX2_collectBackwards_35 (X2_operations hc) (by omega) (by decide) (fun s2 hs2 hf2 => ?_)
            refine r_aload_n dX2_collectBackwards_36 rfl rfl ?_
            refine r_dup dX2_collectBackwards_37 rfl ?_
            refine s_getI dX2_collectBackwards_38 fX2_32 (layX2 hc) rfl (show s2 g 0 = nI i by rw [hf2 g (by omega)]; exact h0) ?_
            refine n_const 1 dX2_collectBackwards_41 (by decide) ?_
            refine n_add dX2_collectBackwards_42 ?_
            refine a_put dX2_collectBackwards_43 gX2_32 (layX2 hc) rfl rfl rfl (fun s3 hs3 hf3 => ?_)
            refine r_aload_n dX2_collectBackwards_46 rfl rfl ?_
            refine r_aload_n dX2_collectBackwards_47 rfl rfl ?_
            refine r_iload_n dX2_collectBackwards_48 rfl rfl ?_
            refine s_S3I mX2_before dX2_collectBackwards_49 okX2_before lX2_40 npX2_before (by decide) (by decide) (by decide) (Nat.le_of_ble_eq_true rfl) (Nat.le_of_ble_eq_true rfl) (c_cBefore ho hh (c_R_fr (c_R_fr hC1 hf2 (Or.inl (by omega)) hs.1) hf3 (Or.inl (by omega)) hs.1) hg (c_t0_fr (c_t0_fr ht1 hf2 (Or.inl (by omega))) hf3 (Or.inl (by omega))) hqb.1) (fun x s1 hq => ?_)
            obtain ⟨rfl, rfl⟩ := hq
            refine r_istore_n dX2_collectBackwards_52 rfl (by decide) rfl ?_
            refine n_inc dX2_collectBackwards_53 rfl (n_i1 _) (by decide) rfl ?_
            refine r_goto (tgt := 14) dX2_collectBackwards_56 (by decide) ?_
            have hbk : x_bk X (i + 1) = x_nx0 X q := by show (x_bk X i).bind _ = _; rw [hbq]; rfl
            rw [← hbk]
            refine ih (i + 1) _ ?_ (fun j hj => ?_) (fun j hj => ?_) (s_fr_tr hf (s_fr_tr (s_fr_w hf2 (by omega) (by omega)) (s_fr_w hf3 (by omega) (by omega)))) (by omega) (by omega)
            · rw [hs3, pk_us]
            · by_cases e : j = i
              · subst e; rw [hbq]; exact fun z => by cases z
              · exact hno j (by omega)
            · rw [hf3 (g + 1) (by omega), hs2]
              by_cases e : j = i
              · subst e; rw [pk_us]; unfold x_pb; rw [hbq]; rfl
              · rw [pk_un e]; exact hA j (by omega)
  refine r_aload_n dX2_collectBackwards_0 rfl rfl ?_
  refine n_const 0 dX2_collectBackwards_1 (by decide) ?_
  refine a_put dX2_collectBackwards_2 gX2_32 (layX2 hc) rfl rfl rfl (fun s2 hs2 hf2 => ?_)
  refine r_aload_n dX2_collectBackwards_5 rfl rfl ?_
  refine r_aload_n dX2_collectBackwards_6 rfl rfl ?_
  refine s_S2I mX2_lastOf dX2_collectBackwards_7 okX2_lastOf lX2_36 npX2_lastOf (by decide) (by decide) (by decide) (Nat.le_of_ble_eq_true rfl) (Nat.le_of_ble_eq_true rfl) (c_lastOf ho hh (c_R_fr hC hf2 (Or.inl (by omega)) hs.1) hg (c_t0_fr ht hf2 (Or.inl (by omega)))) (fun x s1 hq => ?_)
  obtain ⟨rfl, rfl⟩ := hq
  refine r_istore_n dX2_collectBackwards_10 rfl (by decide) rfl ?_
  refine n_const 0 dX2_collectBackwards_11 (by decide) ?_
  refine r_istore dX2_collectBackwards_12 (by decide) rfl ?_
  exact lp 21 0 _ (by rw [hs2, pk_us]) (fun j hj => absurd hj (by omega)) (fun j hj => absurd hj (by omega)) (s_fr_w hf2 (by omega) (by omega)) (by omega) (by omega)
set_option maxRecDepth 20000 in
set_option maxHeartbeats 1000000 in
theorem c_turnRound {G : q_G} {s : s_T} {X : x_T} {g : Nat} (hc : isX2 g) (hg : x_gd X) (h0 : s g 0 = nI (x_pl X)) (h1 : ∀ i, i < x_pl X → s (g + 1) i = nI (x_pb X i)) : s_W G mX2_turnRound 1 0 0 (c_V (fun s1 => (∀ i, i < x_pl X → s1 (g + 1) i = nI (x_fw X i)) ∧ (∀ i, i < x_pl X → s1 (g + 3) (x_fw X i) = nI i) ∧ (∀ k, k < 20 → (∀ i, i < x_pl X → x_fw X i ≠ k) → s1 (g + 3) k = -1) ∧ s1 g = s g ∧ s1 (g + 2) = s (g + 2) ∧ s_fr g (g + 4) s s1)) 0 (q_ent mX2_turnRound [.ref g]) [] s := by
  show s_W G mX2_turnRound 1 0 0 _ 0 [some (.ref g), none, none, none] [] s
  have hs := x_sz hg.1
  have hpl := (x_pl_ok hg).1
  have hg3 := o2_le hc
  have l3 : ∀ f i (L2 : Option Value) (L3 : Option Value) s1, s1 g = s g → (∀ i, i < x_pl X → s1 (g + 1) i = nI (x_fw X i)) → (∀ j, j < i → s1 (g + 3) (x_fw X j) = nI j) → (∀ k, k < 20 → (∀ j, j < i → x_fw X j ≠ k) → s1 (g + 3) k = -1) → s1 (g + 2) = s (g + 2) → s_fr g (g + 4) s s1 → i ≤ x_pl X → x_pl X < i + f → s_W G mX2_turnRound 1 0 0 (c_V (fun s1 => (∀ i, i < x_pl X → s1 (g + 1) i = nI (x_fw X i)) ∧ (∀ i, i < x_pl X → s1 (g + 3) (x_fw X i) = nI i) ∧ (∀ k, k < 20 → (∀ i, i < x_pl X → x_fw X i ≠ k) → s1 (g + 3) k = -1) ∧ s1 g = s g ∧ s1 (g + 2) = s (g + 2) ∧ s_fr g (g + 4) s s1)) 76 [some (.ref g), some (.int (nI i)), L2, L3] [] s1 := by
    intro f
    induction f with
    | zero =>
      intro i L2 L3 s1 hg0 hA hB hD hg2 hf hi hme
      exact absurd hme (by omega)
    | succ f ih =>
      intro i L2 L3 s1 hg0 hA hB hD hg2 hf hi hme
      refine r_iload_n dX2_turnRound_76 rfl rfl ?_
      refine r_aload_n dX2_turnRound_77 rfl rfl ?_
      refine s_getI dX2_turnRound_78 fX2_32 (layX2 hc) rfl (show s1 g 0 = nI (x_pl X) by rw [hg0]; exact h0) ?_
      refine n_cge (tgt := 102) dX2_turnRound_81 (by decide) (by omega) (by omega) (fun c81 => ?_) (fun c81 => ?_)
      · refine s_vret dX2_turnRound_102 rfl ?_
        exact ⟨rfl, hA, fun i hi => hB i (by omega), fun k hk hn => hD k hk (fun j hj => hn j (by omega)), hg0, hg2, hf⟩
      · have hfl := x_fw_lt hg c81
        refine r_aload_n dX2_turnRound_84 rfl rfl ?_
        refine s_getR dX2_turnRound_85 fX2_18 (layX2 hc) rfl ?_
        refine r_aload_n dX2_turnRound_88 rfl rfl ?_
        refine s_getR dX2_turnRound_89 fX2_9 (layX2 hc) rfl ?_
        refine r_iload_n dX2_turnRound_92 rfl rfl ?_
        refine a_ld dX2_turnRound_93 (X2_operations hc) (by omega) (by decide) (hA _ (by omega)) ?_
        refine r_iload_n dX2_turnRound_94 rfl rfl ?_
        refine a_st dX2_turnRound_95 (X2_indices hc) (by omega) (by decide) (fun s2 hs2 hf2 => ?_)
        refine n_inc dX2_turnRound_96 rfl (n_i1 _) (by decide) rfl ?_
        refine r_goto (tgt := 76) dX2_turnRound_99 (by decide) ?_
        refine ih (i + 1) _ _ _ ?_ (fun j hj => ?_) (fun j hj => ?_) (fun k hk hn => ?_) ?_ (s_fr_tr hf (s_fr_w hf2 (by omega) (by omega))) (by omega) (by omega)
        · rw [hf2 g (by omega)]; exact hg0
        · rw [hf2 (g + 1) (by omega)]; exact hA j hj
        · rw [hs2]
          by_cases e : j = i
          · subst e; rw [pk_us]
          · rw [pk_un (fun z => e (x_fw_ne hg (by omega) (by omega) z))]; exact hB j (by omega)
        · rw [hs2, pk_un (fun z => hn i (by omega) z.symm)]; exact hD k hk (fun j hj => hn j (by omega))
        · rw [hf2 (g + 2) (by omega)]; exact hg2
  have l2 : ∀ f k (L2 : Option Value) (L3 : Option Value) s1, s1 g = s g → (∀ i, i < x_pl X → s1 (g + 1) i = nI (x_fw X i)) → (∀ j, j < k → s1 (g + 3) j = -1) → s1 (g + 2) = s (g + 2) → s_fr g (g + 4) s s1 → k ≤ 20 → 20 < k + f → s_W G mX2_turnRound 1 0 0 (c_V (fun s1 => (∀ i, i < x_pl X → s1 (g + 1) i = nI (x_fw X i)) ∧ (∀ i, i < x_pl X → s1 (g + 3) (x_fw X i) = nI i) ∧ (∀ k, k < 20 → (∀ i, i < x_pl X → x_fw X i ≠ k) → s1 (g + 3) k = -1) ∧ s1 g = s g ∧ s1 (g + 2) = s (g + 2) ∧ s_fr g (g + 4) s s1)) 55 [some (.ref g), some (.int (nI k)), L2, L3] [] s1 := by
    intro f
    induction f with
    | zero =>
      intro k L2 L3 s1 hg0 hA hD hg2 hf hi hme
      exact absurd hme (by omega)
    | succ f ih =>
      intro k L2 L3 s1 hg0 hA hD hg2 hf hi hme
      refine r_iload_n dX2_turnRound_55 rfl rfl ?_
      refine n_bip 20 dX2_turnRound_56 (by decide) ?_
      refine n_cge (tgt := 74) dX2_turnRound_58 (by decide) (by omega) (by omega) (fun c58 => ?_) (fun c58 => ?_)
      · refine n_const 0 dX2_turnRound_74 (by decide) ?_
        refine r_istore_n dX2_turnRound_75 rfl (by decide) rfl ?_
        exact l3 (x_pl X + 1) 0 _ _ s1 hg0 hA (fun j hj => absurd hj (by omega)) (fun j hj _ => hD j (by omega)) hg2 hf (by omega) (by omega)
      · refine r_aload_n dX2_turnRound_61 rfl rfl ?_
        refine s_getR dX2_turnRound_62 fX2_18 (layX2 hc) rfl ?_
        refine r_iload_n dX2_turnRound_65 rfl rfl ?_
        refine r_iconst (v := -1) dX2_turnRound_66 (by decide) ?_
        refine a_st dX2_turnRound_67 (X2_indices hc) (by omega) (by decide) (fun s2 hs2 hf2 => ?_)
        refine n_inc dX2_turnRound_68 rfl (n_i1 _) (by decide) rfl ?_
        refine r_goto (tgt := 55) dX2_turnRound_71 (by decide) ?_
        refine ih (k + 1) _ _ _ ?_ (fun j hj => ?_) (fun j hj => ?_) ?_ (s_fr_tr hf (s_fr_w hf2 (by omega) (by omega))) (by omega) (by omega)
        · rw [hf2 g (by omega)]; exact hg0
        · rw [hf2 (g + 1) (by omega)]; exact hA j hj
        · rw [hs2]
          by_cases e : j = k
          · subst e; rw [pk_us]
          · rw [pk_un e]; exact hD j (by omega)
        · rw [hf2 (g + 2) (by omega)]; exact hg2
  have l1 : ∀ f w (L2 : Option Value) (L3 : Option Value) s1, s1 g = s g → (∀ p, p < x_pl X → s1 (g + 1) p = nI (if p < w ∨ x_pl X - 1 - w < p then x_fw X p else x_pb X p)) → s1 (g + 2) = s (g + 2) → s_fr g (g + 4) s s1 → w ≤ x_pl X / 2 → x_pl X / 2 < w + f → s_W G mX2_turnRound 1 0 0 (c_V (fun s1 => (∀ i, i < x_pl X → s1 (g + 1) i = nI (x_fw X i)) ∧ (∀ i, i < x_pl X → s1 (g + 3) (x_fw X i) = nI i) ∧ (∀ k, k < 20 → (∀ i, i < x_pl X → x_fw X i ≠ k) → s1 (g + 3) k = -1) ∧ s1 g = s g ∧ s1 (g + 2) = s (g + 2) ∧ s_fr g (g + 4) s s1)) 2 [some (.ref g), some (.int (nI w)), L2, L3] [] s1 := by
    intro f
    induction f with
    | zero =>
      intro w L2 L3 s1 hg0 hA hg2 hf hi hme
      exact absurd hme (by omega)
    | succ f ih =>
      intro w L2 L3 s1 hg0 hA hg2 hf hi hme
      refine r_iload_n dX2_turnRound_2 rfl rfl ?_
      refine r_aload_n dX2_turnRound_3 rfl rfl ?_
      refine s_getI dX2_turnRound_4 fX2_32 (layX2 hc) rfl (show s1 g 0 = nI (x_pl X) by rw [hg0]; exact h0) ?_
      refine n_const 2 dX2_turnRound_7 (by decide) ?_
      refine n_div dX2_turnRound_8 (by decide) (by omega) (by omega) ?_
      refine n_cge (tgt := 53) dX2_turnRound_9 (by decide) (by omega) (by omega) (fun c9 => ?_) (fun c9 => ?_)
      · refine n_const 0 dX2_turnRound_53 (by decide) ?_
        refine r_istore_n dX2_turnRound_54 rfl (by decide) rfl ?_
        refine l2 21 0 _ _ s1 hg0 (fun p hp => ?_) (fun j hj => absurd hj (by omega)) hg2 hf (by omega) (by omega)
        rw [hA p hp]
        by_cases e3 : p < w ∨ x_pl X - 1 - w < p
        · rw [if_pos e3]
        · rw [if_neg e3]
          unfold x_fw
          rw [show x_pl X - 1 - p = p by omega]
      · have hw2 : w < x_pl X - 1 - w := by omega
        refine r_aload_n dX2_turnRound_12 rfl rfl ?_
        refine s_getI dX2_turnRound_13 fX2_32 (layX2 hc) rfl (show s1 g 0 = nI (x_pl X) by rw [hg0]; exact h0) ?_
        refine n_const 1 dX2_turnRound_16 (by decide) ?_
        refine n_sub dX2_turnRound_17 (by omega) ?_
        refine r_iload_n dX2_turnRound_18 rfl rfl ?_
        refine n_sub dX2_turnRound_19 (by omega) ?_
        refine r_istore_n dX2_turnRound_20 rfl (by decide) rfl ?_
        refine r_aload_n dX2_turnRound_21 rfl rfl ?_
        refine s_getR dX2_turnRound_22 fX2_9 (layX2 hc) rfl ?_
        refine r_iload_n dX2_turnRound_25 rfl rfl ?_
        refine a_ld dX2_turnRound_26 (X2_operations hc) (by omega) (by decide) (hA _ (by omega)) ?_
        refine r_istore_n dX2_turnRound_27 rfl (by decide) rfl ?_
        refine r_aload_n dX2_turnRound_28 rfl rfl ?_
        refine s_getR dX2_turnRound_29 fX2_9 (layX2 hc) rfl ?_
        refine r_iload_n dX2_turnRound_32 rfl rfl ?_
        refine r_aload_n dX2_turnRound_33 rfl rfl ?_
        refine s_getR dX2_turnRound_34 fX2_9 (layX2 hc) rfl ?_
        refine r_iload_n dX2_turnRound_37 rfl rfl ?_
        refine a_ld dX2_turnRound_38 (X2_operations hc) (by omega) (by decide) (hA _ (by omega)) ?_
        refine a_st dX2_turnRound_39 (X2_operations hc) (by omega) (by decide) (fun s2 hs2 hf2 => ?_)
        refine r_aload_n dX2_turnRound_40 rfl rfl ?_
        refine s_getR dX2_turnRound_41 fX2_9 (layX2 hc) rfl ?_
        refine r_iload_n dX2_turnRound_44 rfl rfl ?_
        refine r_iload_n dX2_turnRound_45 rfl rfl ?_
        refine a_st dX2_turnRound_46 (X2_operations hc) (by omega) (by decide) (fun s3 hs3 hf3 => ?_)
        refine n_inc dX2_turnRound_47 rfl (n_i1 _) (by decide) rfl ?_
        refine r_goto (tgt := 2) dX2_turnRound_50 (by decide) ?_
        refine ih (w + 1) _ _ _ ?_ (fun p hp => ?_) ?_ (s_fr_tr hf (s_fr_tr (s_fr_w hf2 (by omega) (by omega)) (s_fr_w hf3 (by omega) (by omega)))) (by omega) (by omega)
        · rw [hf3 g (by omega), hf2 g (by omega)]; exact hg0
        · rw [hs3]
          by_cases e1 : p = x_pl X - 1 - w
          · subst e1
            rw [pk_us, if_neg (by omega), if_pos (by omega)]
            unfold x_fw
            rw [show x_pl X - 1 - (x_pl X - 1 - w) = w by omega]
          · rw [pk_un e1, hs2]
            by_cases e2 : p = w
            · subst e2
              rw [pk_us, if_neg (by omega), if_pos (by omega)]
              rfl
            · rw [pk_un e2, hA p hp]
              by_cases e3 : p < w ∨ x_pl X - 1 - w < p
              · rw [if_pos e3, if_pos (by omega)]
              · rw [if_neg e3, if_neg (by omega)]
        · rw [hf3 (g + 2) (by omega), hf2 (g + 2) (by omega)]; exact hg2
  refine n_const 0 dX2_turnRound_0 (by decide) ?_
  refine r_istore_n dX2_turnRound_1 rfl (by decide) rfl ?_
  exact l1 (x_pl X / 2 + 1) 0 _ _ s rfl (fun p hp => by rw [if_neg (by omega)]; exact h1 p hp) rfl s_fr_rf (by omega) (by omega)
