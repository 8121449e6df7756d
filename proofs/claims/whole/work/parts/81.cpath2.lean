/-! ===== the class: blocks, trace, the calls on the path ===== -/
set_option maxRecDepth 20000 in
set_option maxHeartbeats 1000000 in
theorem c_countBlocks {G : q_G} {s : s_T} {X : x_T} {o g : Nat} (ho : isX7 o) (hc : isX2 g) (hC : c_R X s o) (hg : x_gd X) (hsz : s g 0 = nI (x_pl X)) (hop : ∀ i, i < x_pl X → s (g + 1) i = nI (x_fw X i)) : s_W G mX2_countBlocks 1 0 0 (c_V (fun s1 => s1 g 0 = s g 0 ∧ s1 g 2 = nI (x_bc (x_fm X) (x_pl X)) ∧ (∀ b, b < x_bc (x_fm X) (x_pl X) → s1 (g + 2) b = nI (x_bl (x_fm X) b (x_pl X))) ∧ s1 (g + 1) = s (g + 1) ∧ s1 (g + 3) = s (g + 3) ∧ s_fr g (g + 4) s s1)) 0 (q_ent mX2_countBlocks [.ref g, .ref o]) [] s := by
  show s_W G mX2_countBlocks 1 0 0 _ 0 [some (.ref g), some (.ref o), none, none, none] [] s
  have hs := x_sz hg.1
  have ho2 := o7_le ho
  have hg3 := o2_le hc
  have lp : ∀ f n v (L4 : Option Value) s1, s1 g 0 = s g 0 → s1 g 2 = nI (x_bc (x_fm X) n) → (∀ b, b < x_bc (x_fm X) n → s1 (g + 2) b = nI (x_bl (x_fm X) b n)) → s1 (g + 1) = s (g + 1) → s1 (g + 3) = s (g + 3) → s_fr g (g + 4) s s1 → n ≤ x_pl X → ((n = 0 ∧ v = -1) ∨ (0 < n ∧ v = nI (x_fm X (n - 1)))) → x_pl X < n + f → s_W G mX2_countBlocks 1 0 0 (c_V (fun s1 => s1 g 0 = s g 0 ∧ s1 g 2 = nI (x_bc (x_fm X) (x_pl X)) ∧ (∀ b, b < x_bc (x_fm X) (x_pl X) → s1 (g + 2) b = nI (x_bl (x_fm X) b (x_pl X))) ∧ s1 (g + 1) = s (g + 1) ∧ s1 (g + 3) = s (g + 3) ∧ s_fr g (g + 4) s s1)) 9 [some (.ref g), some (.ref o), some (.int v), some (.int (nI n)), L4] [] s1 := by
    intro f
    induction f with
    | zero =>
      intro n v L4 s1 h0 h2 hB h1 h3 hf hn hv hme
      exact absurd hme (by omega)
    | succ f ih =>
      intro n v L4 s1 h0 h2 hB h1 h3 hf hn hv hme
      have hC1 := c_R_fr hC hf (Or.inl (by omega)) hs.1
      have hpl := (x_pl_ok hg).1
      rcases hv with ⟨e0, rfl⟩ | ⟨e0, rfl⟩
      · skip
        refine r_iload_n dX2_countBlocks_9 rfl rfl ?_
        refine r_aload_n dX2_countBlocks_10 rfl rfl ?_
        refine s_getI dX2_countBlocks_11 fX2_32 (layX2 hc) rfl (h0.trans hsz) ?_
        refine n_cge (tgt := 80) dX2_countBlocks_14 (by decide) (by omega) (by omega) (fun c14 => ?_) (fun c14 => ?_)
        · refine s_vret dX2_countBlocks_80 rfl ?_
          have e9 : n = x_pl X := by omega
          subst e9
          exact ⟨rfl, h0, h2, hB, h1, h3, hf⟩
        · have hfl := x_fw_lt hg c14
          have hopb := x_op hg.1 hfl
          have hbcl := x_bc_le (q := x_fm X) n
          refine r_aload_n dX2_countBlocks_17 rfl rfl ?_
          refine s_getR dX2_countBlocks_18 fX2_70 (layX7 ho) rfl ?_
          refine r_aload_n dX2_countBlocks_21 rfl rfl ?_
          refine s_getR dX2_countBlocks_22 fX2_9 (layX2 hc) rfl ?_
          refine r_iload_n dX2_countBlocks_25 rfl rfl ?_
          refine a_ld dX2_countBlocks_26 (X2_operations hc) (by omega) (by decide) (show s1 (g + 1) n = nI (x_fw X n) by rw [h1]; exact hop n (by omega)) ?_
          refine a_ld dX2_countBlocks_27 (X7_machineOf ho) (by omega) (by decide) (cl_mc hC1 hfl) ?_
          refine r_istore dX2_countBlocks_28 (by decide) rfl ?_
          refine r_iload dX2_countBlocks_30 rfl ?_
          refine r_iload_n dX2_countBlocks_32 rfl rfl ?_
          refine r_icmp_eq (tgt := 59) dX2_countBlocks_33 (by decide) (fun c33 => ?_) (fun c33 => ?_)
          · exact absurd c33 (nI_m1 (by omega))
          · refine r_iload dX2_countBlocks_36 rfl ?_
            refine r_istore_n dX2_countBlocks_38 rfl (by decide) rfl ?_
            refine r_aload_n dX2_countBlocks_39 rfl rfl ?_
            refine s_getR dX2_countBlocks_40 fX2_15 (layX2 hc) rfl ?_
            refine r_aload_n dX2_countBlocks_43 rfl rfl ?_
            refine s_getI dX2_countBlocks_44 fX2_67 (layX2 hc) rfl h2 ?_
            refine n_const 0 dX2_countBlocks_47 (by decide) ?_
            refine a_st dX2_countBlocks_48 (X2_blockSizes hc) (by omega) (by decide) (fun s2 hs2 hf2 => ?_)
            refine r_aload_n dX2_countBlocks_49 rfl rfl ?_
            refine r_dup dX2_countBlocks_50 rfl ?_
            refine s_getI dX2_countBlocks_51 fX2_67 (layX2 hc) rfl (show s2 g 2 = nI (x_bc (x_fm X) n) by rw [hf2 g (by omega)]; exact h2) ?_
            refine n_const 1 dX2_countBlocks_54 (by decide) ?_
            refine n_add dX2_countBlocks_55 ?_
            refine a_put dX2_countBlocks_56 gX2_67 (layX2 hc) rfl rfl rfl (fun s3 hs3 hf3 => ?_)
            refine r_aload_n dX2_countBlocks_59 rfl rfl ?_
            refine s_getR dX2_countBlocks_60 fX2_15 (layX2 hc) rfl ?_
            refine r_aload_n dX2_countBlocks_63 rfl rfl ?_
            refine s_getI dX2_countBlocks_64 fX2_67 (layX2 hc) rfl (show s3 g 2 = nI (x_bc (x_fm X) n + 1) by rw [hs3, pk_us]) ?_
            refine n_const 1 dX2_countBlocks_67 (by decide) ?_
            refine n_sub dX2_countBlocks_68 (by omega) ?_
            refine r_dup2 dX2_countBlocks_69 rfl rfl ?_
            refine a_ld dX2_countBlocks_70 (X2_blockSizes hc) (by omega) (by decide) (show s3 (g + 2) (x_bc (x_fm X) n + 1 - 1) = nI 0 by rw [hf3 (g + 2) (by omega), hs2, Nat.add_sub_cancel, pk_us]) ?_
            refine n_const 1 dX2_countBlocks_71 (by decide) ?_
            refine n_add dX2_countBlocks_72 ?_
            refine a_st dX2_countBlocks_73 (X2_blockSizes hc) (by omega) (by decide) (fun s4 hs4 hf4 => ?_)
            refine n_inc dX2_countBlocks_74 rfl (n_i1 _) (by decide) rfl ?_
            refine r_goto (tgt := 9) dX2_countBlocks_77 (by decide) ?_
            first
              | (have e1 : x_b1 (x_fm X) n = true := decide_eq_true (by first | exact Or.inl e0 | (right; exact fun z => c33 z))
                 have e2 : x_bc (x_fm X) (n + 1) = x_bc (x_fm X) n + 1 := by rw [x_bc_s, if_pos e1]
                 refine ih (n + 1) _ _ _ ?_ ?_ (fun b hb => ?_) ?_ ?_ ?_ (by omega) (Or.inr ⟨by omega, rfl⟩) (by omega)
                 · rw [hf4 g (by omega), hs3, pk_un (by decide), hf2 g (by omega)]; exact h0
                 · rw [hf4 g (by omega), hs3, pk_us, e2]
                 · rw [hs4, x_bl_s, e2]
                   by_cases e : b = x_bc (x_fm X) n
                   · subst e
                     rw [Nat.add_sub_cancel, pk_us, if_pos rfl, x_bl_0 n _ (Nat.le_refl _)]
                   · rw [Nat.add_sub_cancel, pk_un e, hf3 (g + 2) (by omega), hs2, pk_un e, hB b (by omega), if_neg (by omega), Nat.add_zero]
                 · rw [hf4 (g + 1) (by omega), hf3 (g + 1) (by omega), hf2 (g + 1) (by omega)]; exact h1
                 · rw [hf4 (g + 3) (by omega), hf3 (g + 3) (by omega), hf2 (g + 3) (by omega)]; exact h3
                 · exact s_fr_tr (s_fr_tr (s_fr_tr hf (s_fr_w hf2 (by omega) (by omega))) (s_fr_w hf3 (by omega) (by omega))) (s_fr_w hf4 (by omega) (by omega)))
              | (have e1 : x_b1 (x_fm X) n = false := decide_eq_false (fun z => z.elim (fun z => by omega) (fun z => z c33))
                 have e2 : x_bc (x_fm X) (n + 1) = x_bc (x_fm X) n := by rw [x_bc_s, if_neg (by rw [e1]; decide), Nat.add_zero]
                 have hp := x_bc_p (q := x_fm X) (n := n) (by omega)
                 refine ih (n + 1) _ _ _ ?_ ?_ (fun b hb => ?_) ?_ ?_ ?_ (by omega) (Or.inr ⟨by omega, congrArg nI c33.symm⟩) (by omega)
                 · rw [hf4 g (by omega)]; exact h0
                 · rw [hf4 g (by omega), h2, e2]
                 · rw [hs4, x_bl_s, e2]
                   by_cases e : b = x_bc (x_fm X) n - 1
                   · subst e
                     rw [pk_us, if_pos (by omega)]
                   · rw [pk_un e, hB b (by omega), if_neg (by omega), Nat.add_zero]
                 · rw [hf4 (g + 1) (by omega)]; exact h1
                 · rw [hf4 (g + 3) (by omega)]; exact h3
                 · exact s_fr_tr hf (s_fr_w hf4 (by omega) (by omega)))
      · refine r_iload_n dX2_countBlocks_9 rfl rfl ?_
        refine r_aload_n dX2_countBlocks_10 rfl rfl ?_
        refine s_getI dX2_countBlocks_11 fX2_32 (layX2 hc) rfl (h0.trans hsz) ?_
        refine n_cge (tgt := 80) dX2_countBlocks_14 (by decide) (by omega) (by omega) (fun c14 => ?_) (fun c14 => ?_)
        · refine s_vret dX2_countBlocks_80 rfl ?_
          have e9 : n = x_pl X := by omega
          subst e9
          exact ⟨rfl, h0, h2, hB, h1, h3, hf⟩
        · have hfl := x_fw_lt hg c14
          have hopb := x_op hg.1 hfl
          have hbcl := x_bc_le (q := x_fm X) n
          have hpp := x_bc_p (q := x_fm X) (n := n) (by omega)
          have hfm : x_fm X (n - 1) < 4 := (x_op hg.1 (x_fw_lt hg (i := n - 1) (by omega))).2.2.2.2.2.2.1
          refine r_aload_n dX2_countBlocks_17 rfl rfl ?_
          refine s_getR dX2_countBlocks_18 fX2_70 (layX7 ho) rfl ?_
          refine r_aload_n dX2_countBlocks_21 rfl rfl ?_
          refine s_getR dX2_countBlocks_22 fX2_9 (layX2 hc) rfl ?_
          refine r_iload_n dX2_countBlocks_25 rfl rfl ?_
          refine a_ld dX2_countBlocks_26 (X2_operations hc) (by omega) (by decide) (show s1 (g + 1) n = nI (x_fw X n) by rw [h1]; exact hop n (by omega)) ?_
          refine a_ld dX2_countBlocks_27 (X7_machineOf ho) (by omega) (by decide) (cl_mc hC1 hfl) ?_
          refine r_istore dX2_countBlocks_28 (by decide) rfl ?_
          refine r_iload dX2_countBlocks_30 rfl ?_
          refine r_iload_n dX2_countBlocks_32 rfl rfl ?_
          refine n_ceq (tgt := 59) dX2_countBlocks_33 (by decide) (by omega) (by omega) (fun c33 => ?_) (fun c33 => ?_)
          · refine r_aload_n dX2_countBlocks_59 rfl rfl ?_
            refine s_getR dX2_countBlocks_60 fX2_15 (layX2 hc) rfl ?_
            refine r_aload_n dX2_countBlocks_63 rfl rfl ?_
            refine s_getI dX2_countBlocks_64 fX2_67 (layX2 hc) rfl h2 ?_
            refine n_const 1 dX2_countBlocks_67 (by decide) ?_
            refine n_sub dX2_countBlocks_68 (by omega) ?_
            refine r_dup2 dX2_countBlocks_69 rfl rfl ?_
            refine a_ld dX2_countBlocks_70 (X2_blockSizes hc) (by omega) (by decide) (show s1 (g + 2) (x_bc (x_fm X) n - 1) = nI (x_bl (x_fm X) (x_bc (x_fm X) n - 1) n) from hB _ (by have := x_bc_p (q := x_fm X) (n := n) (by omega); omega)) ?_
            refine n_const 1 dX2_countBlocks_71 (by decide) ?_
            refine n_add dX2_countBlocks_72 ?_
            refine a_st dX2_countBlocks_73 (X2_blockSizes hc) (by omega) (by decide) (fun s4 hs4 hf4 => ?_)
            refine n_inc dX2_countBlocks_74 rfl (n_i1 _) (by decide) rfl ?_
            refine r_goto (tgt := 9) dX2_countBlocks_77 (by decide) ?_
            first
              | (have e1 : x_b1 (x_fm X) n = true := decide_eq_true (by first | exact Or.inl e0 | (right; exact fun z => c33 z))
                 have e2 : x_bc (x_fm X) (n + 1) = x_bc (x_fm X) n + 1 := by rw [x_bc_s, if_pos e1]
                 refine ih (n + 1) _ _ _ ?_ ?_ (fun b hb => ?_) ?_ ?_ ?_ (by omega) (Or.inr ⟨by omega, rfl⟩) (by omega)
                 · rw [hf4 g (by omega), hs3, pk_un (by decide), hf2 g (by omega)]; exact h0
                 · rw [hf4 g (by omega), hs3, pk_us, e2]
                 · rw [hs4, x_bl_s, e2]
                   by_cases e : b = x_bc (x_fm X) n
                   · subst e
                     rw [Nat.add_sub_cancel, pk_us, if_pos rfl, x_bl_0 n _ (Nat.le_refl _)]
                   · rw [Nat.add_sub_cancel, pk_un e, hf3 (g + 2) (by omega), hs2, pk_un e, hB b (by omega), if_neg (by omega), Nat.add_zero]
                 · rw [hf4 (g + 1) (by omega), hf3 (g + 1) (by omega), hf2 (g + 1) (by omega)]; exact h1
                 · rw [hf4 (g + 3) (by omega), hf3 (g + 3) (by omega), hf2 (g + 3) (by omega)]; exact h3
                 · exact s_fr_tr (s_fr_tr (s_fr_tr hf (s_fr_w hf2 (by omega) (by omega))) (s_fr_w hf3 (by omega) (by omega))) (s_fr_w hf4 (by omega) (by omega)))
              | (have e1 : x_b1 (x_fm X) n = false := decide_eq_false (fun z => z.elim (fun z => by omega) (fun z => z c33))
                 have e2 : x_bc (x_fm X) (n + 1) = x_bc (x_fm X) n := by rw [x_bc_s, if_neg (by rw [e1]; decide), Nat.add_zero]
                 have hp := x_bc_p (q := x_fm X) (n := n) (by omega)
                 refine ih (n + 1) _ _ _ ?_ ?_ (fun b hb => ?_) ?_ ?_ ?_ (by omega) (Or.inr ⟨by omega, congrArg nI c33.symm⟩) (by omega)
                 · rw [hf4 g (by omega)]; exact h0
                 · rw [hf4 g (by omega), h2, e2]
                 · rw [hs4, x_bl_s, e2]
                   by_cases e : b = x_bc (x_fm X) n - 1
                   · subst e
                     rw [pk_us, if_pos (by omega)]
                   · rw [pk_un e, hB b (by omega), if_neg (by omega), Nat.add_zero]
                 · rw [hf4 (g + 1) (by omega)]; exact h1
                 · rw [hf4 (g + 3) (by omega)]; exact h3
                 · exact s_fr_tr hf (s_fr_w hf4 (by omega) (by omega)))
          · refine r_iload dX2_countBlocks_36 rfl ?_
            refine r_istore_n dX2_countBlocks_38 rfl (by decide) rfl ?_
            refine r_aload_n dX2_countBlocks_39 rfl rfl ?_
            refine s_getR dX2_countBlocks_40 fX2_15 (layX2 hc) rfl ?_
            refine r_aload_n dX2_countBlocks_43 rfl rfl ?_
            refine s_getI dX2_countBlocks_44 fX2_67 (layX2 hc) rfl h2 ?_
            refine n_const 0 dX2_countBlocks_47 (by decide) ?_
            refine a_st dX2_countBlocks_48 (X2_blockSizes hc) (by omega) (by decide) (fun s2 hs2 hf2 => ?_)
            refine r_aload_n dX2_countBlocks_49 rfl rfl ?_
            refine r_dup dX2_countBlocks_50 rfl ?_
            refine s_getI dX2_countBlocks_51 fX2_67 (layX2 hc) rfl (show s2 g 2 = nI (x_bc (x_fm X) n) by rw [hf2 g (by omega)]; exact h2) ?_
            refine n_const 1 dX2_countBlocks_54 (by decide) ?_
            refine n_add dX2_countBlocks_55 ?_
            refine a_put dX2_countBlocks_56 gX2_67 (layX2 hc) rfl rfl rfl (fun s3 hs3 hf3 => ?_)
            refine r_aload_n dX2_countBlocks_59 rfl rfl ?_
            refine s_getR dX2_countBlocks_60 fX2_15 (layX2 hc) rfl ?_
            refine r_aload_n dX2_countBlocks_63 rfl rfl ?_
            refine s_getI dX2_countBlocks_64 fX2_67 (layX2 hc) rfl (show s3 g 2 = nI (x_bc (x_fm X) n + 1) by rw [hs3, pk_us]) ?_
            refine n_const 1 dX2_countBlocks_67 (by decide) ?_
            refine n_sub dX2_countBlocks_68 (by omega) ?_
            refine r_dup2 dX2_countBlocks_69 rfl rfl ?_
            refine a_ld dX2_countBlocks_70 (X2_blockSizes hc) (by omega) (by decide) (show s3 (g + 2) (x_bc (x_fm X) n + 1 - 1) = nI 0 by rw [hf3 (g + 2) (by omega), hs2, Nat.add_sub_cancel, pk_us]) ?_
            refine n_const 1 dX2_countBlocks_71 (by decide) ?_
            refine n_add dX2_countBlocks_72 ?_
            refine a_st dX2_countBlocks_73 (X2_blockSizes hc) (by omega) (by decide) (fun s4 hs4 hf4 => ?_)
            refine n_inc dX2_countBlocks_74 rfl (n_i1 _) (by decide) rfl ?_
            refine r_goto (tgt := 9) dX2_countBlocks_77 (by decide) ?_
            first
              | (have e1 : x_b1 (x_fm X) n = true := decide_eq_true (by first | exact Or.inl e0 | (right; exact fun z => c33 z))
                 have e2 : x_bc (x_fm X) (n + 1) = x_bc (x_fm X) n + 1 := by rw [x_bc_s, if_pos e1]
                 refine ih (n + 1) _ _ _ ?_ ?_ (fun b hb => ?_) ?_ ?_ ?_ (by omega) (Or.inr ⟨by omega, rfl⟩) (by omega)
                 · rw [hf4 g (by omega), hs3, pk_un (by decide), hf2 g (by omega)]; exact h0
                 · rw [hf4 g (by omega), hs3, pk_us, e2]
                 · rw [hs4, x_bl_s, e2]
                   by_cases e : b = x_bc (x_fm X) n
                   · subst e
                     rw [Nat.add_sub_cancel, pk_us, if_pos rfl, x_bl_0 n _ (Nat.le_refl _)]
                   · rw [Nat.add_sub_cancel, pk_un e, hf3 (g + 2) (by omega), hs2, pk_un e, hB b (by omega), if_neg (by omega), Nat.add_zero]
                 · rw [hf4 (g + 1) (by omega), hf3 (g + 1) (by omega), hf2 (g + 1) (by omega)]; exact h1
                 · rw [hf4 (g + 3) (by omega), hf3 (g + 3) (by omega), hf2 (g + 3) (by omega)]; exact h3
                 · exact s_fr_tr (s_fr_tr (s_fr_tr hf (s_fr_w hf2 (by omega) (by omega))) (s_fr_w hf3 (by omega) (by omega))) (s_fr_w hf4 (by omega) (by omega)))
              | (have e1 : x_b1 (x_fm X) n = false := decide_eq_false (fun z => z.elim (fun z => by omega) (fun z => z c33))
                 have e2 : x_bc (x_fm X) (n + 1) = x_bc (x_fm X) n := by rw [x_bc_s, if_neg (by rw [e1]; decide), Nat.add_zero]
                 have hp := x_bc_p (q := x_fm X) (n := n) (by omega)
                 refine ih (n + 1) _ _ _ ?_ ?_ (fun b hb => ?_) ?_ ?_ ?_ (by omega) (Or.inr ⟨by omega, congrArg nI c33.symm⟩) (by omega)
                 · rw [hf4 g (by omega)]; exact h0
                 · rw [hf4 g (by omega), h2, e2]
                 · rw [hs4, x_bl_s, e2]
                   by_cases e : b = x_bc (x_fm X) n - 1
                   · subst e
                     rw [pk_us, if_pos (by omega)]
                   · rw [pk_un e, hB b (by omega), if_neg (by omega), Nat.add_zero]
                 · rw [hf4 (g + 1) (by omega)]; exact h1
                 · rw [hf4 (g + 3) (by omega)]; exact h3
                 · exact s_fr_tr hf (s_fr_w hf4 (by omega) (by omega)))
  refine r_aload_n dX2_countBlocks_0 rfl rfl ?_
  refine n_const 0 dX2_countBlocks_1 (by decide) ?_
  refine a_put dX2_countBlocks_2 gX2_67 (layX2 hc) rfl rfl rfl (fun s2 hs2 hf2 => ?_)
  refine r_iconst (v := -1) dX2_countBlocks_5 (by decide) ?_
  refine r_istore_n dX2_countBlocks_6 rfl (by decide) rfl ?_
  refine n_const 0 dX2_countBlocks_7 (by decide) ?_
  refine r_istore_n dX2_countBlocks_8 rfl (by decide) rfl ?_
  exact lp (x_pl X + 1) 0 _ _ s2 (by rw [hs2, pk_un (by decide)]) (by rw [hs2, pk_us]; rfl) (fun b hb => absurd hb (Nat.not_lt_zero _)) (hf2 _ (by omega)) (hf2 _ (by omega)) (s_fr_w hf2 (by omega) (by omega)) (by omega) (Or.inl ⟨rfl, rfl⟩) (by omega)
/-- the object at g has the path of X -/
def c_pa (X : x_T) (s : s_T) (g : Nat) : Prop := s g 0 = nI (x_pl X) ∧ (∀ i, i < x_pl X → s (g + 1) i = nI (x_fw X i)) ∧ s g 2 = nI (x_bc (x_fm X) (x_pl X)) ∧ (∀ b, b < x_bc (x_fm X) (x_pl X) → s (g + 2) b = nI (x_bl (x_fm X) b (x_pl X))) ∧ (∀ i, i < x_pl X → s (g + 3) (x_fw X i) = nI i) ∧ (∀ k, k < 20 → (∀ i, i < x_pl X → x_fw X i ≠ k) → s (g + 3) k = -1)
set_option maxRecDepth 20000 in
set_option maxHeartbeats 1000000 in
theorem c_trace {G : q_G} {s : s_T} {X : x_T} {o h g : Nat} (ho : isX7 o) (hh : isX10 h) (hc : isX2 g) (hC : c_R X s o) (hg : x_gd X) (ht : c_t0 X s h) (hd : h + 8 ≤ g) : s_W G mX2_trace 4 0 0 (c_V (fun s1 => c_pa X s1 g ∧ s_fr g (g + 4) s s1)) 0 (q_ent mX2_trace [.ref g, .ref o, .ref h]) [] s := by
  show s_W G mX2_trace 4 0 0 _ 0 [some (.ref g), some (.ref o), some (.ref h)] [] s
  have hs := x_sz hg.1
  have ho2 := o7_le ho
  have hh3 := o10_le hh
  have hg3 := o2_le hc
  refine r_aload_n dX2_trace_0 rfl rfl ?_
  refine r_aload_n dX2_trace_1 rfl rfl ?_
  refine r_aload_n dX2_trace_2 rfl rfl ?_
  refine s_V2V mX2_collectBackwards dX2_trace_3 okX2_collectBackwards lX2_21 npX2_collectBackwards (layX2 hc) rfl (by decide) (by decide) (by decide) (Nat.le_of_ble_eq_true rfl) (Nat.le_of_ble_eq_true rfl) (c_collect ho hh hc hC hg ht hd) (fun s1 hq => ?_)
  obtain ⟨a1, a2, fa⟩ := hq
  refine r_aload_n dX2_trace_6 rfl rfl ?_
  refine s_V0V mX2_turnRound dX2_trace_7 okX2_turnRound lX2_25 npX2_turnRound (layX2 hc) rfl (by decide) (by decide) (by decide) (Nat.le_of_ble_eq_true rfl) (Nat.le_of_ble_eq_true rfl) (c_turnRound hc hg a1 a2) (fun s1 hq => ?_)
  obtain ⟨b1, b2, b3, b4, b5, fb⟩ := hq
  refine r_aload_n dX2_trace_10 rfl rfl ?_
  refine r_aload_n dX2_trace_11 rfl rfl ?_
  refine s_V1V mX2_countBlocks dX2_trace_12 okX2_countBlocks lX2_28 npX2_countBlocks (layX2 hc) rfl (by decide) (by decide) (by decide) (Nat.le_of_ble_eq_true rfl) (Nat.le_of_ble_eq_true rfl) (c_countBlocks ho hc (c_R_fr (c_R_fr hC fa (Or.inl (by omega)) hs.1) fb (Or.inl (by omega)) hs.1) hg (by rw [b4]; exact a1) b1) (fun s1 hq => ?_)
  obtain ⟨d0, d1, d2, d3, d4, fd⟩ := hq
  refine s_vret dX2_trace_15 rfl ?_
  refine ⟨rfl, ⟨?_, ?_, d1, d2, ?_, ?_⟩, s_fr_tr (s_fr_tr (s_fr_w fa (by omega) (by omega)) fb) fd⟩
  · rw [d0, b4]; exact a1
  · intro i hi; rw [d3]; exact b1 i hi
  · intro i hi; rw [d4]; exact b2 i hi
  · intro k hk hn; rw [d4]; exact b3 k hk hn
set_option maxRecDepth 20000 in
set_option maxHeartbeats 1000000 in
theorem c_traceCritical {G : q_G} {s : s_T} {z : z_T} (hz : z_wf z) (hZ : c_Z z s) : s_W G mX11_traceCritical 5 0 0 (c_V (fun s1 => c_pa (z 0) s1 140 ∧ c_t0 (z 0) s1 124 ∧ c_R (z 0) s1 1 ∧ c_Z z s1 ∧ s_fr 0 212 s s1)) 0 (q_ent mX11_traceCritical [.ref 0]) [] s := by
  show s_W G mX11_traceCritical 5 0 0 _ 0 [some (.ref 0)] [] s
  have hw := hz.1.1
  have hs := x_sz hw
  have hC := hZ.1
  have hf : s_fr 0 212 s s := s_fr_rf
  have ho : isX7 1 := Or.inl rfl
  refine r_aload_n dX11_traceCritical_0 rfl rfl ?_
  refine s_getR dX11_traceCritical_1 fX11_25 lysX11 rfl ?_
  refine r_aload_n dX11_traceCritical_4 rfl rfl ?_
  refine s_getR dX11_traceCritical_5 fX11_10 lysX11 rfl ?_
  refine s_V1I mX10_compute dX11_traceCritical_8 okX10_compute lX11_221 npX10_compute (layX10 isX10_124) rfl (by decide) (by decide) (by decide) (Nat.le_of_ble_eq_true rfl) (Nat.le_of_ble_eq_true rfl) (c_compute0 ho isX10_124 hC (z_gd hz) (c_Q_h (c_Z_Q hZ) (Or.inl rfl)).1 (c_Q_h (c_Z_Q hZ) (Or.inl rfl)).2) (fun x s1 hq => ?_)
  obtain ⟨rfl, ht, h6, h5, h9, h10, hf1⟩ := hq
  replace hC := c_R_fr hC hf1 (Or.inl (by omega)) hs.1
  replace hZ := c_Z_e0 hZ hz hC (c_eq_tt (Or.inl rfl) h5 h9 h10 hf1)
  replace hf := s_fr_tr hf (s_fr_w hf1 (by omega) (by omega))
  refine r_pop dX11_traceCritical_11 rfl ?_
  refine r_aload_n dX11_traceCritical_12 rfl rfl ?_
  refine s_getR dX11_traceCritical_13 fX11_35 lysX11 rfl ?_
  refine r_aload_n dX11_traceCritical_16 rfl rfl ?_
  refine s_getR dX11_traceCritical_17 fX11_10 lysX11 rfl ?_
  refine r_aload_n dX11_traceCritical_20 rfl rfl ?_
  refine s_getR dX11_traceCritical_21 fX11_25 lysX11 rfl ?_
  refine s_V2V mX2_trace dX11_traceCritical_24 okX2_trace lX11_402 npX2_trace (layX2 isX2_140) rfl (by decide) (by decide) (by decide) (Nat.le_of_ble_eq_true rfl) (Nat.le_of_ble_eq_true rfl) (c_trace ho isX10_124 isX2_140 hC (z_gd hz) ht (by decide)) (fun s1 hq => ?_)
  obtain ⟨hpa, hf2⟩ := hq
  replace hC := c_R_fr hC hf2 (Or.inl (by omega)) hs.1
  replace hZ := c_Z_e0 hZ hz hC (c_eq_fr hf2 (by omega))
  replace hf := s_fr_tr hf (s_fr_w hf2 (by omega) (by omega))
  replace ht := c_t0_fr ht hf2 (Or.inl (by omega))
  refine s_vret dX11_traceCritical_27 rfl ?_
  exact ⟨rfl, hpa, ht, hC, hZ, hf⟩
set_option maxRecDepth 20000 in
set_option maxHeartbeats 1000000 in
theorem c_pathLength {G : q_G} {s : s_T} {z : z_T} (hz : z_wf z) (hZ : c_Z z s) : s_W G mX11_pathLength 6 0 0 (c_P [] (A_pathLength z) s) 0 (q_ent mX11_pathLength [.ref 0]) [] s := by
  show s_W G mX11_pathLength 6 0 0 _ 0 [some (.ref 0)] [] s
  have hw := hz.1.1
  have hs := x_sz hw
  have hC := hZ.1
  have hf : s_fr 0 212 s s := s_fr_rf
  have ho : isX7 1 := Or.inl rfl
  have hplb := (x_pl_ok (z_gd hz)).1
  have hbcb := x_bc_le (q := x_fm (z 0)) (x_pl (z 0))
  refine r_aload_n dX11_pathLength_0 rfl rfl ?_
  refine s_V0V mX11_traceCritical dX11_pathLength_1 okX11_traceCritical lX11_269 npX11_traceCritical lysX11 rfl (by decide) (by decide) (by decide) (Nat.le_of_ble_eq_true rfl) (Nat.le_of_ble_eq_true rfl) (c_traceCritical hz hZ) (fun s1 hq => ?_)
  obtain ⟨hpa, ht, hC1, hZ1, hf1⟩ := hq
  replace hC := hC1
  replace hZ := hZ1
  replace hf := s_fr_tr hf hf1
  refine r_aload_n dX11_pathLength_4 rfl rfl ?_
  refine s_getR dX11_pathLength_5 fX11_35 lysX11 rfl ?_
  refine s_getI dX11_pathLength_8 fX11_272 (layX2 isX2_140) rfl hpa.1 ?_
  refine s_iret dX11_pathLength_11 rfl rfl ?_
  exact c_P_s rfl hZ hf
set_option maxRecDepth 20000 in
set_option maxHeartbeats 1000000 in
theorem c_blocks {G : q_G} {s : s_T} {z : z_T} (hz : z_wf z) (hZ : c_Z z s) : s_W G mX11_blocks 6 0 0 (c_P [] (A_blocks z) s) 0 (q_ent mX11_blocks [.ref 0]) [] s := by
  show s_W G mX11_blocks 6 0 0 _ 0 [some (.ref 0)] [] s
  have hw := hz.1.1
  have hs := x_sz hw
  have hC := hZ.1
  have hf : s_fr 0 212 s s := s_fr_rf
  have ho : isX7 1 := Or.inl rfl
  have hplb := (x_pl_ok (z_gd hz)).1
  have hbcb := x_bc_le (q := x_fm (z 0)) (x_pl (z 0))
  refine r_aload_n dX11_blocks_0 rfl rfl ?_
  refine s_V0V mX11_traceCritical dX11_blocks_1 okX11_traceCritical lX11_269 npX11_traceCritical lysX11 rfl (by decide) (by decide) (by decide) (Nat.le_of_ble_eq_true rfl) (Nat.le_of_ble_eq_true rfl) (c_traceCritical hz hZ) (fun s1 hq => ?_)
  obtain ⟨hpa, ht, hC1, hZ1, hf1⟩ := hq
  replace hC := hC1
  replace hZ := hZ1
  replace hf := s_fr_tr hf hf1
  refine r_aload_n dX11_blocks_4 rfl rfl ?_
  refine s_getR dX11_blocks_5 fX11_35 lysX11 rfl ?_
  refine s_getI dX11_blocks_8 fX11_279 (layX2 isX2_140) rfl hpa.2.2.1 ?_
  refine s_iret dX11_blocks_11 rfl rfl ?_
  exact c_P_s rfl hZ hf
set_option maxRecDepth 20000 in
set_option maxHeartbeats 1000000 in
theorem c_path {G : q_G} {s : s_T} {z : z_T} (hz : z_wf z) (hZ : c_Z z s) {a : Int32} : s_W G mX11_path 8 2 12 (c_P [q_NS] (A_path z a) s) 0 (q_ent mX11_path [.ref 0, .int a]) [] s := by
  show s_W G mX11_path 8 2 12 _ 0 [some (.ref 0), some (.int a)] [] s
  have hw := hz.1.1
  have hs := x_sz hw
  have hC := hZ.1
  have hf : s_fr 0 212 s s := s_fr_rf
  have ho : isX7 1 := Or.inl rfl
  have hplb := (x_pl_ok (z_gd hz)).1
  have hbcb := x_bc_le (q := x_fm (z 0)) (x_pl (z 0))
  refine r_aload_n dX11_path_0 rfl rfl ?_
  refine s_V0V mX11_traceCritical dX11_path_1 okX11_traceCritical lX11_269 npX11_traceCritical lysX11 rfl (by decide) (by decide) (by decide) (Nat.le_of_ble_eq_true rfl) (Nat.le_of_ble_eq_true rfl) (c_traceCritical hz hZ) (fun s1 hq => ?_)
  obtain ⟨hpa, ht, hC1, hZ1, hf1⟩ := hq
  replace hC := hC1
  replace hZ := hZ1
  replace hf := s_fr_tr hf hf1
  refine r_iload_n dX11_path_4 rfl rfl ?_
  refine r_if_lt (tgt := 19) dX11_path_5 (by decide) (fun c5 => ?_) (fun c5 => ?_)
  · refine s_throwNW dX11_path_19 dX11_path_22 dX11_path_23 dX11_path_26 dX11_path_29 thrN_275 rfl (by decide) (by decide) (by decide) (Nat.le_of_ble_eq_true rfl) ?_
    exact c_P_e 1 (by unfold A_path; rw [if_neg (fun q => by have q2 := of_decide_eq_true q; simp only [Int32.lt_iff_toInt_lt, Int32.le_iff_toInt_le, i_0, nI_toInt (show (x_pl (z 0)) < 2 ^ 31 by omega)] at *; omega)]) (by decide) rfl hZ hf
  · refine r_iload_n dX11_path_8 rfl rfl ?_
    refine r_aload_n dX11_path_9 rfl rfl ?_
    refine s_getR dX11_path_10 fX11_35 lysX11 rfl ?_
    refine s_getI dX11_path_13 fX11_272 (layX2 isX2_140) rfl hpa.1 ?_
    refine r_icmp_lt (tgt := 30) dX11_path_16 (by decide) (fun c16 => ?_) (fun c16 => ?_)
    · have hx4 : iLt a (x_pl (z 0)) = true := decide_eq_true (by simp only [Int32.lt_iff_toInt_lt, Int32.le_iff_toInt_le, i_0, nI_toInt (show (x_pl (z 0)) < 2 ^ 31 by omega)] at *; omega)
      obtain ⟨a, rfl, ha, ha2⟩ := iLt_n hx4
      have ea := iN_n ha2
      refine r_aload_n dX11_path_30 rfl rfl ?_
      refine s_getR dX11_path_31 fX11_35 lysX11 rfl ?_
      refine s_getR dX11_path_34 fX11_277 (layX2 isX2_140) rfl ?_
      refine r_iload_n dX11_path_37 rfl rfl ?_
      refine a_ld dX11_path_38 (X2_operations isX2_140) (by omega) (by decide) (hpa.2.1 _ (by omega)) ?_
      refine s_iret dX11_path_39 rfl rfl ?_
      exact c_P_s (by unfold A_path; rw [if_pos hx4, ea]) hZ hf
    · refine s_throwNW dX11_path_19 dX11_path_22 dX11_path_23 dX11_path_26 dX11_path_29 thrN_275 rfl (by decide) (by decide) (by decide) (Nat.le_of_ble_eq_true rfl) ?_
      exact c_P_e 1 (by unfold A_path; rw [if_neg (fun q => by have q2 := of_decide_eq_true q; simp only [Int32.lt_iff_toInt_lt, Int32.le_iff_toInt_le, i_0, nI_toInt (show (x_pl (z 0)) < 2 ^ 31 by omega)] at *; omega)]) (by decide) rfl hZ hf
set_option maxRecDepth 20000 in
set_option maxHeartbeats 1000000 in
theorem c_blockLength {G : q_G} {s : s_T} {z : z_T} (hz : z_wf z) (hZ : c_Z z s) {a : Int32} : s_W G mX11_blockLength 8 2 12 (c_P [q_NS] (A_blockLength z a) s) 0 (q_ent mX11_blockLength [.ref 0, .int a]) [] s := by
  show s_W G mX11_blockLength 8 2 12 _ 0 [some (.ref 0), some (.int a)] [] s
  have hw := hz.1.1
  have hs := x_sz hw
  have hC := hZ.1
  have hf : s_fr 0 212 s s := s_fr_rf
  have ho : isX7 1 := Or.inl rfl
  have hplb := (x_pl_ok (z_gd hz)).1
  have hbcb := x_bc_le (q := x_fm (z 0)) (x_pl (z 0))
  refine r_aload_n dX11_blockLength_0 rfl rfl ?_
  refine s_V0V mX11_traceCritical dX11_blockLength_1 okX11_traceCritical lX11_269 npX11_traceCritical lysX11 rfl (by decide) (by decide) (by decide) (Nat.le_of_ble_eq_true rfl) (Nat.le_of_ble_eq_true rfl) (c_traceCritical hz hZ) (fun s1 hq => ?_)
  obtain ⟨hpa, ht, hC1, hZ1, hf1⟩ := hq
  replace hC := hC1
  replace hZ := hZ1
  replace hf := s_fr_tr hf hf1
  refine r_iload_n dX11_blockLength_4 rfl rfl ?_
  refine r_if_lt (tgt := 19) dX11_blockLength_5 (by decide) (fun c5 => ?_) (fun c5 => ?_)
  · refine s_throwNW dX11_blockLength_19 dX11_blockLength_22 dX11_blockLength_23 dX11_blockLength_26 dX11_blockLength_29 thrN_282 rfl (by decide) (by decide) (by decide) (Nat.le_of_ble_eq_true rfl) ?_
    exact c_P_e 1 (by unfold A_blockLength; rw [if_neg (fun q => by have q2 := of_decide_eq_true q; simp only [Int32.lt_iff_toInt_lt, Int32.le_iff_toInt_le, i_0, nI_toInt (show (x_bc (x_fm (z 0)) (x_pl (z 0))) < 2 ^ 31 by omega)] at *; omega)]) (by decide) rfl hZ hf
  · refine r_iload_n dX11_blockLength_8 rfl rfl ?_
    refine r_aload_n dX11_blockLength_9 rfl rfl ?_
    refine s_getR dX11_blockLength_10 fX11_35 lysX11 rfl ?_
    refine s_getI dX11_blockLength_13 fX11_279 (layX2 isX2_140) rfl hpa.2.2.1 ?_
    refine r_icmp_lt (tgt := 30) dX11_blockLength_16 (by decide) (fun c16 => ?_) (fun c16 => ?_)
    · have hx4 : iLt a (x_bc (x_fm (z 0)) (x_pl (z 0))) = true := decide_eq_true (by simp only [Int32.lt_iff_toInt_lt, Int32.le_iff_toInt_le, i_0, nI_toInt (show (x_bc (x_fm (z 0)) (x_pl (z 0))) < 2 ^ 31 by omega)] at *; omega)
      obtain ⟨a, rfl, ha, ha2⟩ := iLt_n hx4
      have ea := iN_n ha2
      refine r_aload_n dX11_blockLength_30 rfl rfl ?_
      refine s_getR dX11_blockLength_31 fX11_35 lysX11 rfl ?_
      refine s_getR dX11_blockLength_34 fX11_284 (layX2 isX2_140) rfl ?_
      refine r_iload_n dX11_blockLength_37 rfl rfl ?_
      refine a_ld dX11_blockLength_38 (X2_blockSizes isX2_140) (by omega) (by decide) (hpa.2.2.2.1 _ (by omega)) ?_
      refine s_iret dX11_blockLength_39 rfl rfl ?_
      exact c_P_s (by unfold A_blockLength; rw [if_pos hx4, ea]) hZ hf
    · refine s_throwNW dX11_blockLength_19 dX11_blockLength_22 dX11_blockLength_23 dX11_blockLength_26 dX11_blockLength_29 thrN_282 rfl (by decide) (by decide) (by decide) (Nat.le_of_ble_eq_true rfl) ?_
      exact c_P_e 1 (by unfold A_blockLength; rw [if_neg (fun q => by have q2 := of_decide_eq_true q; simp only [Int32.lt_iff_toInt_lt, Int32.le_iff_toInt_le, i_0, nI_toInt (show (x_bc (x_fm (z 0)) (x_pl (z 0))) < 2 ^ 31 by omega)] at *; omega)]) (by decide) rfl hZ hf
