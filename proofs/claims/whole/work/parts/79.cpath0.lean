/-! ===== the class: the critical path ===== -/
theorem o2_le {g : Nat} (h : isX2 g) : 140 ≤ g ∧ g ≤ 170 := by rcases h with rfl | rfl <;> decide
section DIV
variable {G : q_G} {M : q_M} {d C S : Nat} {P : q_R → s_T → Prop} {pc : Nat} {L : List (Option Value)} {st : List Value} {s : s_T}
theorem n_div {a b : Nat} (dc : decode M.2.2.1 pc = .ok (.idiv, 1)) (hb : 0 < b) (ha : a < 2 ^ 31) (hb2 : b < 2 ^ 31) (K : s_W G M d C S P (pc + 1) L (.int (nI (a / b)) :: st) s) : s_W G M d C S P pc L (.int (nI b) :: .int (nI a) :: st) s :=
  r_idiv dc (fun q => by have := (nI_eq (b := 0) hb2 (by decide)).mp q; omega) (by rw [pk_div ha hb hb2]; exact K)
end DIV
set_option maxRecDepth 20000 in
set_option maxHeartbeats 1000000 in
theorem c_lastOf {G : q_G} {s : s_T} {X : x_T} {o h : Nat} (ho : isX7 o) (hh : isX10 h) (hC : c_R X s o) (hg : x_gd X) (ht : c_t0 X s h) : s_W G mX2_lastOf 1 0 0 (c_I (fun y9 s1 => s1 = s ∧ y9 = oI (x_la (x_e0 X) (X 1)))) 0 (q_ent mX2_lastOf [.ref o, .ref h]) [] s := by
  show s_W G mX2_lastOf 1 0 0 _ 0 [some (.ref o), some (.ref h), none, none] [] s
  have hs := x_sz hg.1
  have lp : ∀ f k, k ≤ X 1 → X 1 < k + f → s_W G mX2_lastOf 1 0 0 (c_I (fun y9 s1 => s1 = s ∧ y9 = oI (x_la (x_e0 X) (X 1)))) 4 [some (.ref o), some (.ref h), some (.int (oI (x_la (x_e0 X) k))), some (.int (nI k))] [] s := by
    intro f
    induction f with
    | zero =>
      intro k hk hme
      exact absurd hme (by omega)
    | succ f ih =>
      intro k hk hme
      cases hla : x_la (x_e0 X) k with
      | none =>
        show s_W G mX2_lastOf 1 0 0 _ 4 [some (.ref o), some (.ref h), some (.int (-1)), some (.int (nI k))] [] s
        refine r_iload_n dX2_lastOf_4 rfl rfl ?_
        refine r_aload_n dX2_lastOf_5 rfl rfl ?_
        refine s_getI dX2_lastOf_6 fX2_44 (layX7 ho) rfl (cl_ops hC) ?_
        refine n_cge (tgt := 40) dX2_lastOf_9 (by decide) (by omega) (by omega) (fun c9 => ?_) (fun c9 => ?_)
        · refine r_iload_n dX2_lastOf_40 rfl rfl ?_
          refine s_iret dX2_lastOf_41 rfl rfl ?_
          have e9 : k = X 1 := by omega
          subst e9
          exact ⟨_, rfl, rfl, by rw [hla]; rfl⟩
        · have hkb := x_t0_bd hg c9
          refine r_iload_n dX2_lastOf_12 rfl rfl ?_
          refine r_iconst (v := -1) dX2_lastOf_13 (by decide) ?_
          refine r_icmp_eq (tgt := 32) dX2_lastOf_14 (by decide) (fun c14 => ?_) (fun c14 => ?_)
          · refine r_iload_n dX2_lastOf_32 rfl rfl ?_
            refine r_istore_n dX2_lastOf_33 rfl (by decide) rfl ?_
            refine n_inc dX2_lastOf_34 rfl (n_i1 _) (by decide) rfl ?_
            refine r_goto (tgt := 4) dX2_lastOf_37 (by decide) ?_
            have e9 : x_la (x_e0 X) (k + 1) = some k := by unfold x_la; rw [hla]
            have q9 := ih (k + 1) (by omega) (by omega)
            rw [e9] at q9
            exact q9
          · exact absurd rfl c14
      | some q =>
        have hq := x_la_lt _ _ hla
        show s_W G mX2_lastOf 1 0 0 _ 4 [some (.ref o), some (.ref h), some (.int (nI q)), some (.int (nI k))] [] s
        refine r_iload_n dX2_lastOf_4 rfl rfl ?_
        refine r_aload_n dX2_lastOf_5 rfl rfl ?_
        refine s_getI dX2_lastOf_6 fX2_44 (layX7 ho) rfl (cl_ops hC) ?_
        refine n_cge (tgt := 40) dX2_lastOf_9 (by decide) (by omega) (by omega) (fun c9 => ?_) (fun c9 => ?_)
        · refine r_iload_n dX2_lastOf_40 rfl rfl ?_
          refine s_iret dX2_lastOf_41 rfl rfl ?_
          have e9 : k = X 1 := by omega
          subst e9
          exact ⟨_, rfl, rfl, by rw [hla]; rfl⟩
        · have hkb := x_t0_bd hg c9
          have hqb := x_t0_bd hg (o := q) (by omega)
          refine r_iload_n dX2_lastOf_12 rfl rfl ?_
          refine r_iconst (v := -1) dX2_lastOf_13 (by decide) ?_
          refine r_icmp_eq (tgt := 32) dX2_lastOf_14 (by decide) (fun c14 => ?_) (fun c14 => ?_)
          · exact absurd c14 (nI_m1 (by omega))
          · refine r_aload_n dX2_lastOf_17 rfl rfl ?_
            refine s_getR dX2_lastOf_18 fX2_48 (layX10 hh) rfl ?_
            refine r_iload_n dX2_lastOf_21 rfl rfl ?_
            refine a_ld dX2_lastOf_22 (X10_end hh) (by omega) (by decide) (ht _ (by omega)).2.2.1 ?_
            refine r_aload_n dX2_lastOf_23 rfl rfl ?_
            refine s_getR dX2_lastOf_24 fX2_48 (layX10 hh) rfl ?_
            refine r_iload_n dX2_lastOf_27 rfl rfl ?_
            refine a_ld dX2_lastOf_28 (X10_end hh) (by omega) (by decide) (ht _ (by omega)).2.2.1 ?_
            refine n_cle (tgt := 34) dX2_lastOf_29 (by decide) (by omega) (by omega) (fun c29 => ?_) (fun c29 => ?_)
            · refine n_inc dX2_lastOf_34 rfl (n_i1 _) (by decide) rfl ?_
              refine r_goto (tgt := 4) dX2_lastOf_37 (by decide) ?_
              have q9 := ih (k + 1) (by omega) (by omega)
              first
                | (rw [show x_la (x_e0 X) (k + 1) = some k by unfold x_la; rw [hla]; exact if_pos (show x_t0 X q + X (82 + q) < x_t0 X k + X (82 + k) by omega)] at q9; exact q9)
                | (rw [show x_la (x_e0 X) (k + 1) = some q by unfold x_la; rw [hla]; exact if_neg (show ¬ x_t0 X q + X (82 + q) < x_t0 X k + X (82 + k) by omega)] at q9; exact q9)
            · refine r_iload_n dX2_lastOf_32 rfl rfl ?_
              refine r_istore_n dX2_lastOf_33 rfl (by decide) rfl ?_
              refine n_inc dX2_lastOf_34 rfl (n_i1 _) (by decide) rfl ?_
              refine r_goto (tgt := 4) dX2_lastOf_37 (by decide) ?_
              have q9 := ih (k + 1) (by omega) (by omega)
              first
                | (rw [show x_la (x_e0 X) (k + 1) = some k by unfold x_la; rw [hla]; exact if_pos (show x_t0 X q + X (82 + q) < x_t0 X k + X (82 + k) by omega)] at q9; exact q9)
                | (rw [show x_la (x_e0 X) (k + 1) = some q by unfold x_la; rw [hla]; exact if_neg (show ¬ x_t0 X q + X (82 + q) < x_t0 X k + X (82 + k) by omega)] at q9; exact q9)
  refine r_iconst (v := -1) dX2_lastOf_0 (by decide) ?_
  refine r_istore_n dX2_lastOf_1 rfl (by decide) rfl ?_
  refine n_const 0 dX2_lastOf_2 (by decide) ?_
  refine r_istore_n dX2_lastOf_3 rfl (by decide) rfl ?_
  exact lp (X 1 + 1) 0 (by omega) (by omega)
set_option maxRecDepth 20000 in
set_option maxHeartbeats 1000000 in
theorem c_cBefore {G : q_G} {s : s_T} {X : x_T} {o h : Nat} (ho : isX7 o) (hh : isX10 h) (hC : c_R X s o) (hg : x_gd X) (ht : c_t0 X s h) {k : Nat} (hk : k < X 1) : s_W G mX2_before 2 0 0 (c_I (fun y9 s1 => s1 = s ∧ y9 = oI (x_nx0 X k))) 0 (q_ent mX2_before [.ref o, .ref h, .int (nI k)]) [] s := by
  show s_W G mX2_before 2 0 0 _ 0 [some (.ref o), some (.ref h), some (.int (nI k)), none, none, none] [] s
  have hs := x_sz hg.1
  have hkb := x_t0_bd hg hk
  cases hjp : x_jp X k with
  | none =>
    cases hmp : x_mp X n0 k with
    | none =>
      refine r_aload_n dX2_before_0 rfl rfl ?_
      refine s_getR dX2_before_1 fX2_53 (layX10 hh) rfl ?_
      refine r_iload_n dX2_before_4 rfl rfl ?_
      refine a_ld dX2_before_5 (X10_ready hh) (by omega) (by decide) (ht _ hk).1 ?_
      refine r_istore_n dX2_before_6 rfl (by decide) rfl ?_
      refine r_aload_n dX2_before_7 rfl rfl ?_
      refine r_iload_n dX2_before_8 rfl rfl ?_
      refine s_V1I mX7_jobPredecessor dX2_before_9 okX7_jobPredecessor lX2_56 npX7_jobPredecessor (layX7 ho) rfl (by decide) (by decide) (by decide) (Nat.le_of_ble_eq_true rfl) (Nat.le_of_ble_eq_true rfl) (c_jobPredecessor ho hC hg.1 hk) (fun x s1 hq => ?_)
      obtain ⟨rfl, e9⟩ := hq
      have e9 : x = -1 := e9.trans (by have q9 : x_jp X k = _ := hjp; unfold x_jp at q9; rw [q9]; rfl)
      subst e9
      refine r_istore dX2_before_12 (by decide) rfl ?_
      refine r_iload dX2_before_14 rfl ?_
      refine r_iconst (v := -1) dX2_before_16 (by decide) ?_
      refine r_icmp_eq (tgt := 34) dX2_before_17 (by decide) (fun c17 => ?_) (fun c17 => ?_)
      · refine r_aload_n dX2_before_34 rfl rfl ?_
        refine s_getR dX2_before_35 fX2_60 (layX10 hh) rfl ?_
        refine r_iload_n dX2_before_38 rfl rfl ?_
        refine a_ld dX2_before_39 (X10_machineBefore hh) (by omega) (by decide) ((ht _ hk).2.2.2.trans (show oI (x_mp X n0 k) = -1 by rw [hmp]; rfl)) ?_
        refine r_istore dX2_before_40 (by decide) rfl ?_
        refine r_iload dX2_before_42 rfl ?_
        refine r_iconst (v := -1) dX2_before_44 (by decide) ?_
        refine r_icmp_eq (tgt := 70) dX2_before_45 (by decide) (fun c45 => ?_) (fun c45 => ?_)
        · refine r_iconst (v := -1) dX2_before_70 (by decide) ?_
          refine s_iret dX2_before_71 rfl rfl ?_
          refine ⟨_, rfl, rfl, ?_⟩
          rw [show x_nx0 X k = none from x_nx_0 (fun q e => (by rw [hjp] at e; cases e)) (fun q e => (by rw [hmp] at e; cases e))]; rfl
        · exact absurd rfl c45
      · exact absurd rfl c17
    | some qm =>
      have hqm := (x_mp_lt hg.1 hk hmp).1
      have hqmb := x_t0_bd hg hqm
      have hsu := x_su hg.1 (x_op hg.1 hqm).2.2.2.2.2.2.2.2.2 (x_op hg.1 hk).2.2.2.2.2.2.2.2.2
      refine r_aload_n dX2_before_0 rfl rfl ?_
      refine s_getR dX2_before_1 fX2_53 (layX10 hh) rfl ?_
      refine r_iload_n dX2_before_4 rfl rfl ?_
      refine a_ld dX2_before_5 (X10_ready hh) (by omega) (by decide) (ht _ hk).1 ?_
      refine r_istore_n dX2_before_6 rfl (by decide) rfl ?_
      refine r_aload_n dX2_before_7 rfl rfl ?_
      refine r_iload_n dX2_before_8 rfl rfl ?_
      refine s_V1I mX7_jobPredecessor dX2_before_9 okX7_jobPredecessor lX2_56 npX7_jobPredecessor (layX7 ho) rfl (by decide) (by decide) (by decide) (Nat.le_of_ble_eq_true rfl) (Nat.le_of_ble_eq_true rfl) (c_jobPredecessor ho hC hg.1 hk) (fun x s1 hq => ?_)
      obtain ⟨rfl, e9⟩ := hq
      have e9 : x = -1 := e9.trans (by have q9 : x_jp X k = _ := hjp; unfold x_jp at q9; rw [q9]; rfl)
      subst e9
      refine r_istore dX2_before_12 (by decide) rfl ?_
      refine r_iload dX2_before_14 rfl ?_
      refine r_iconst (v := -1) dX2_before_16 (by decide) ?_
      refine r_icmp_eq (tgt := 34) dX2_before_17 (by decide) (fun c17 => ?_) (fun c17 => ?_)
      · refine r_aload_n dX2_before_34 rfl rfl ?_
        refine s_getR dX2_before_35 fX2_60 (layX10 hh) rfl ?_
        refine r_iload_n dX2_before_38 rfl rfl ?_
        refine a_ld dX2_before_39 (X10_machineBefore hh) (by omega) (by decide) ((ht _ hk).2.2.2.trans (show oI (x_mp X n0 k) = nI qm by rw [hmp]; rfl)) ?_
        refine r_istore dX2_before_40 (by decide) rfl ?_
        refine r_iload dX2_before_42 rfl ?_
        refine r_iconst (v := -1) dX2_before_44 (by decide) ?_
        refine r_icmp_eq (tgt := 70) dX2_before_45 (by decide) (fun c45 => ?_) (fun c45 => ?_)
        · exact absurd c45 (nI_m1 (by omega))
        · refine r_aload_n dX2_before_48 rfl rfl ?_
          refine s_getR dX2_before_49 fX2_48 (layX10 hh) rfl ?_
          refine r_iload dX2_before_52 rfl ?_
          refine a_ld dX2_before_54 (X10_end hh) (by omega) (by decide) (ht _ hqm).2.2.1 ?_
          refine r_aload_n dX2_before_55 rfl rfl ?_
          refine r_iload dX2_before_56 rfl ?_
          refine r_iload_n dX2_before_58 rfl rfl ?_
          refine s_V2I mX7_setupBetween dX2_before_59 okX7_setupBetween lX2_63 npX7_setupBetween (layX7 ho) rfl (by decide) (by decide) (by decide) (Nat.le_of_ble_eq_true rfl) (Nat.le_of_ble_eq_true rfl) (c_setupBetween ho hC hg.1 hqm hk) (fun x s1 hq => ?_)
          obtain ⟨rfl, rfl⟩ := hq
          refine n_add dX2_before_62 ?_
          refine r_iload_n dX2_before_63 rfl rfl ?_
          refine n_cne (tgt := 70) dX2_before_64 (by decide) (by omega) (by omega) (fun c64 => ?_) (fun c64 => ?_)
          · refine r_iconst (v := -1) dX2_before_70 (by decide) ?_
            refine s_iret dX2_before_71 rfl rfl ?_
            refine ⟨_, rfl, rfl, ?_⟩
            rw [show x_nx0 X k = none from x_nx_0 (fun q e => (by rw [hjp] at e; cases e)) (fun q e => (by rw [hmp] at e; cases e; exact c64))]; rfl
          · refine r_iload dX2_before_67 rfl ?_
            refine s_iret dX2_before_69 rfl rfl ?_
            refine ⟨_, rfl, rfl, ?_⟩
            rw [show x_nx0 X k = some qm from x_nx_m (fun q e => (by rw [hjp] at e; cases e)) hmp c64]; rfl
      · exact absurd rfl c17
  | some qj =>
    cases hmp : x_mp X n0 k with
    | none =>
      have hqj := (x_jp_lt hg.1 hk hjp).1
      have hqjb := x_t0_bd hg hqj
      refine r_aload_n dX2_before_0 rfl rfl ?_
      refine s_getR dX2_before_1 fX2_53 (layX10 hh) rfl ?_
      refine r_iload_n dX2_before_4 rfl rfl ?_
      refine a_ld dX2_before_5 (X10_ready hh) (by omega) (by decide) (ht _ hk).1 ?_
      refine r_istore_n dX2_before_6 rfl (by decide) rfl ?_
      refine r_aload_n dX2_before_7 rfl rfl ?_
      refine r_iload_n dX2_before_8 rfl rfl ?_
      refine s_V1I mX7_jobPredecessor dX2_before_9 okX7_jobPredecessor lX2_56 npX7_jobPredecessor (layX7 ho) rfl (by decide) (by decide) (by decide) (Nat.le_of_ble_eq_true rfl) (Nat.le_of_ble_eq_true rfl) (c_jobPredecessor ho hC hg.1 hk) (fun x s1 hq => ?_)
      obtain ⟨rfl, e9⟩ := hq
      have e9 : x = nI qj := e9.trans (by have q9 : x_jp X k = _ := hjp; unfold x_jp at q9; rw [q9]; rfl)
      subst e9
      refine r_istore dX2_before_12 (by decide) rfl ?_
      refine r_iload dX2_before_14 rfl ?_
      refine r_iconst (v := -1) dX2_before_16 (by decide) ?_
      refine r_icmp_eq (tgt := 34) dX2_before_17 (by decide) (fun c17 => ?_) (fun c17 => ?_)
      · exact absurd c17 (nI_m1 (by omega))
      · refine r_aload_n dX2_before_20 rfl rfl ?_
        refine s_getR dX2_before_21 fX2_48 (layX10 hh) rfl ?_
        refine r_iload dX2_before_24 rfl ?_
        refine a_ld dX2_before_26 (X10_end hh) (by omega) (by decide) (ht _ hqj).2.2.1 ?_
        refine r_iload_n dX2_before_27 rfl rfl ?_
        refine n_cne (tgt := 34) dX2_before_28 (by decide) (by omega) (by omega) (fun c28 => ?_) (fun c28 => ?_)
        · refine r_aload_n dX2_before_34 rfl rfl ?_
          refine s_getR dX2_before_35 fX2_60 (layX10 hh) rfl ?_
          refine r_iload_n dX2_before_38 rfl rfl ?_
          refine a_ld dX2_before_39 (X10_machineBefore hh) (by omega) (by decide) ((ht _ hk).2.2.2.trans (show oI (x_mp X n0 k) = -1 by rw [hmp]; rfl)) ?_
          refine r_istore dX2_before_40 (by decide) rfl ?_
          refine r_iload dX2_before_42 rfl ?_
          refine r_iconst (v := -1) dX2_before_44 (by decide) ?_
          refine r_icmp_eq (tgt := 70) dX2_before_45 (by decide) (fun c45 => ?_) (fun c45 => ?_)
          · refine r_iconst (v := -1) dX2_before_70 (by decide) ?_
            refine s_iret dX2_before_71 rfl rfl ?_
            refine ⟨_, rfl, rfl, ?_⟩
            rw [show x_nx0 X k = none from x_nx_0 (fun q e => (by rw [hjp] at e; cases e; exact c28)) (fun q e => (by rw [hmp] at e; cases e))]; rfl
          · exact absurd rfl c45
        · refine r_iload dX2_before_31 rfl ?_
          refine s_iret dX2_before_33 rfl rfl ?_
          refine ⟨_, rfl, rfl, ?_⟩
          rw [show x_nx0 X k = some qj from x_nx_j hjp c28]; rfl
    | some qm =>
      have hqj := (x_jp_lt hg.1 hk hjp).1
      have hqjb := x_t0_bd hg hqj
      have hqm := (x_mp_lt hg.1 hk hmp).1
      have hqmb := x_t0_bd hg hqm
      have hsu := x_su hg.1 (x_op hg.1 hqm).2.2.2.2.2.2.2.2.2 (x_op hg.1 hk).2.2.2.2.2.2.2.2.2
      refine r_aload_n dX2_before_0 rfl rfl ?_
      refine s_getR dX2_before_1 fX2_53 (layX10 hh) rfl ?_
      refine r_iload_n dX2_before_4 rfl rfl ?_
      refine a_ld dX2_before_5 (X10_ready hh) (by omega) (by decide) (ht _ hk).1 ?_
      refine r_istore_n dX2_before_6 rfl (by decide) rfl ?_
      refine r_aload_n dX2_before_7 rfl rfl ?_
      refine r_iload_n dX2_before_8 rfl rfl ?_
      refine s_V1I mX7_jobPredecessor dX2_before_9 okX7_jobPredecessor lX2_56 npX7_jobPredecessor (layX7 ho) rfl (by decide) (by decide) (by decide) (Nat.le_of_ble_eq_true rfl) (Nat.le_of_ble_eq_true rfl) (c_jobPredecessor ho hC hg.1 hk) (fun x s1 hq => ?_)
      obtain ⟨rfl, e9⟩ := hq
      have e9 : x = nI qj := e9.trans (by have q9 : x_jp X k = _ := hjp; unfold x_jp at q9; rw [q9]; rfl)
      subst e9
      refine r_istore dX2_before_12 (by decide) rfl ?_
      refine r_iload dX2_before_14 rfl ?_
      refine r_iconst (v := -1) dX2_before_16 (by decide) ?_
      refine r_icmp_eq (tgt := 34) dX2_before_17 (by decide) (fun c17 => ?_) (fun c17 => ?_)
      · exact absurd c17 (nI_m1 (by omega))
      · refine r_aload_n dX2_before_20 rfl rfl ?_
        refine s_getR dX2_before_21 fX2_48 (layX10 hh) rfl ?_
        refine r_iload dX2_before_24 rfl ?_
        refine a_ld dX2_before_26 (X10_end hh) (by omega) (by decide) (ht _ hqj).2.2.1 ?_
        refine r_iload_n dX2_before_27 rfl rfl ?_
        refine n_cne (tgt := 34) dX2_before_28 (by decide) (by omega) (by omega) (fun c28 => ?_) (fun c28 => ?_)
        · refine r_aload_n dX2_before_34 rfl rfl ?_
          refine s_getR dX2_before_35 fX2_60 (layX10 hh) rfl ?_
          refine r_iload_n dX2_before_38 rfl rfl ?_
          refine a_ld dX2_before_39 (X10_machineBefore hh) (by omega) (by decide) ((ht _ hk).2.2.2.trans (show oI (x_mp X n0 k) = nI qm by rw [hmp]; rfl)) ?_
          refine r_istore dX2_before_40 (by decide) rfl ?_
          refine r_iload dX2_before_42 rfl ?_
          refine r_iconst (v := -1) dX2_before_44 (by decide) ?_
          refine r_icmp_eq (tgt := 70) dX2_before_45 (by decide) (fun c45 => ?_) (fun c45 => ?_)
          · exact absurd c45 (nI_m1 (by omega))
          · refine r_aload_n dX2_before_48 rfl rfl ?_
            refine s_getR dX2_before_49 fX2_48 (layX10 hh) rfl ?_
            refine r_iload dX2_before_52 rfl ?_
            refine a_ld dX2_before_54 (X10_end hh) (by omega) (by decide) (ht _ hqm).2.2.1 ?_
            refine r_aload_n dX2_before_55 rfl rfl ?_
            refine r_iload dX2_before_56 rfl ?_
            refine r_iload_n dX2_before_58 rfl rfl ?_
            refine s_V2I mX7_setupBetween dX2_before_59 okX7_setupBetween lX2_63 npX7_setupBetween (layX7 ho) rfl (by decide) (by decide) (by decide) (Nat.le_of_ble_eq_true rfl) (Nat.le_of_ble_eq_true rfl) (c_setupBetween ho hC hg.1 hqm hk) (fun x s1 hq => ?_)
            obtain ⟨rfl, rfl⟩ := hq
            refine n_add dX2_before_62 ?_
            refine r_iload_n dX2_before_63 rfl rfl ?_
            refine n_cne (tgt := 70) dX2_before_64 (by decide) (by omega) (by omega) (fun c64 => ?_) (fun c64 => ?_)
            · refine r_iconst (v := -1) dX2_before_70 (by decide) ?_
              refine s_iret dX2_before_71 rfl rfl ?_
              refine ⟨_, rfl, rfl, ?_⟩
              rw [show x_nx0 X k = none from x_nx_0 (fun q e => (by rw [hjp] at e; cases e; exact c28)) (fun q e => (by rw [hmp] at e; cases e; exact c64))]; rfl
            · refine r_iload dX2_before_67 rfl ?_
              refine s_iret dX2_before_69 rfl rfl ?_
              refine ⟨_, rfl, rfl, ?_⟩
              rw [show x_nx0 X k = some qm from x_nx_m (fun q e => (by rw [hjp] at e; cases e; exact c28)) hmp c64]; rfl
        · refine r_iload dX2_before_31 rfl ?_
          refine s_iret dX2_before_33 rfl rfl ?_
          refine ⟨_, rfl, rfl, ?_⟩
          rw [show x_nx0 X k = some qj from x_nx_j hjp c28]; rfl
