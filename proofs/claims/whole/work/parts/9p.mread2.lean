section
/-! ===== the reference: jobs and operations of a text ===== -/
def v_Y (s : s_T) : Prop := ∃ Y, m_R Y s ∧ x_gd Y
/-- the first j triples of numbers are made -/
def v_X (t : Nat → Nat) (n : Nat) (X0 : x_T) (j : Nat) (s : s_T) : Prop := (∃ X1 jb st, w_ex t n X0 j = .inl (X1, jb, st) ∧ m_R X1 s ∧ s 212 33 = -1) ∨ (∃ w Y, w_ex t n X0 j = .inr w ∧ m_R Y s ∧ x_gd Y ∧ s 212 33 = nI w.1 ∧ s 212 34 = nI w.2.1 ∧ s 212 35 = nI w.2.2)
def v_A (t : Nat → Nat) (n : Nat) (X0 : x_T) (j : Nat) (Q : Nat → Prop) (s : s_T) : Prop := (∃ p f, w_sq t n (3 * j + 2) = some (5, p) ∧ w_c t n 5 p ≠ 0 ∧ s 212 30 = nI (p + w_c t n 5 p) ∧ s 212 31 = -1 ∧ n < p + f ∧ w_fl t n f 5 p = w_fl t n 81 0 0 ∧ Q (p + w_c t n 5 p) ∧ v_X t n X0 (j + 1) s) ∨ (v_D t n s ∧ v_Y s)
theorem w_nx_0 (x : Nat) : w_nx 0 x = if x = 44 then some 1 else none := rfl
theorem w_nx_1 (x : Nat) : w_nx 1 x = if x = 44 then some 2 else none := rfl
theorem w_nx_2 (x : Nat) : w_nx 2 x = if x = 58 then some 3 else none := rfl
theorem w_nx_3 (x : Nat) : w_nx 3 x = if x = 46 then some 4 else none := rfl
theorem w_nx_4 (x : Nat) : w_nx 4 x = if x = 46 then some 5 else none := rfl
theorem w_nx_5 (x : Nat) : w_nx 5 x = if x = 47 then some 3 else if x = 59 then some 0 else none := rfl
theorem v_X_Y {t : Nat → Nat} {n j : Nat} {X0 : x_T} {s : s_T} (hg : x_gd X0) (h : v_X t n X0 j s) : v_Y s := by
  rcases h with ⟨X1, jb, st, h1, h2, -⟩ | ⟨w, Y, -, h2, h3, -⟩
  · have q := w_ex_ok (t := t) (n := n) hg j
    rw [h1] at q
    exact ⟨X1, h2, q.1⟩
  · exact ⟨Y, h2, h3⟩
theorem m_R_G {X : x_T} {s s1 : s_T} (h : m_R X s) (hf : r_G s s1) : m_R X s1 := fun k hk => by rw [hf.2 213 (by omega)]; exact h k hk
theorem v_X_G {t : Nat → Nat} {n j : Nat} {X0 : x_T} {s s1 : s_T} (h : v_X t n X0 j s) (hf : r_G s s1) : v_X t n X0 j s1 := by
  unfold v_X
  rw [hf.1 33 (by omega) (by omega) (by omega), hf.1 34 (by omega) (by omega) (by omega), hf.1 35 (by omega) (by omega) (by omega)]
  rcases h with ⟨X1, jb, st, h1, h2, h3⟩ | ⟨w, Y, h1, h2, h3⟩
  · exact Or.inl ⟨X1, jb, st, h1, m_R_G h2 hf, h3⟩
  · exact Or.inr ⟨w, Y, h1, m_R_G h2 hf, h3⟩
theorem v_Y_G {s s1 : s_T} (h : v_Y s) (hf : r_G s s1) : v_Y s1 := by
  obtain ⟨Y, h1, h2⟩ := h
  exact ⟨Y, m_R_G h1 hf, h2⟩
/-- the operation behind is of the job -/
def v_K (t : Nat → Nat) (n : Nat) (X0 : x_T) (j jn ix md : Nat) : Prop := ∀ X1 jb st, w_ex t n X0 j = .inl (X1, jb, st) → jb = jn + 1 ∧ ix = st ∧ md + 1 = X1 0
theorem v_K_s {t : Nat → Nat} {n j jn ix md : Nat} {X0 : x_T} (hg : x_gd X0) (h : v_K t n X0 j jn ix md) (hk : w_ki t n (3 * j) ≠ 0) : v_K t n X0 (j + 1) jn (ix + 1) md := by
  intro X2 jb2 st2 h2
  cases he : w_ex t n X0 j with
  | inr w => rw [w_ex_r he] at h2; cases h2
  | inl y =>
    obtain ⟨X1, jb, st⟩ := y
    rw [w_ex_l he] at h2
    unfold w_s1 at h2
    rw [if_neg hk] at h2
    have q := h X1 jb st he
    have ok := w_ex_ok (t := t) (n := n) hg j
    rw [he] at ok
    have hg1 : x_gd X1 := ok.1
    by_cases ef : w_of X1 (w_va t n (3 * j)) (w_va t n (3 * j + 1)) (w_va t n (3 * j + 2)) = true
    · rw [if_pos ef] at h2
      cases h2
      unfold w_of at ef
      rw [Bool.and_eq_true, Bool.and_eq_true, Bool.and_eq_true, decide_eq_true_iff, decide_eq_true_iff, decide_eq_true_iff, Bool.not_eq_true', Bool.or_eq_false_iff, decide_eq_false_iff_not] at ef
      have hn := x_room hg1.1 (show X1 0 - 1 < X1 0 by omega) ef.1.1 (by have := x_jb hg1.1 (show X1 0 - 1 < X1 0 by omega); omega) ef.2.2
      exact ⟨q.1, by omega, by rw [x_addOp_o (by have := x_sz hg1.1; omega)]; exact q.2.2⟩
    · rw [if_neg ef] at h2; cases h2
set_option maxRecDepth 20000 in
set_option maxHeartbeats 1000000 in
theorem c_readOperation {G : q_G} {s : s_T} {t : Nat → Nat} {n j p0 f0 jn ix md : Nat} {X0 : x_T} (hT : v_T t n s) (hq0 : w_sq t n (3 * j) = some (3, p0)) (i30 : s 212 30 = nI p0) (i31 : s 212 31 = -1) (if0 : n < p0 + f0) (iX : w_fl t n f0 3 p0 = w_fl t n 81 0 0) (hX0 : v_X t n X0 j s) (hK : v_K t n X0 j jn ix md) (hg : x_gd X0) (hj : jn ≤ 100) (hi : ix ≤ 100) : s_W G mX12_readOperation 5 0 0 (c_V (fun s1 => v_A t n X0 j (fun _ => True) s1 ∧ v_K t n X0 (j + 1) jn (ix + 1) md ∧ r_F s s1)) 0 (q_ent mX12_readOperation [.ref 212, .int (nI jn), .int (nI ix), .int (nI md)]) [] s := by
  show s_W G mX12_readOperation 5 0 0 _ 0 [some (.ref 212), some (.int (nI jn)), some (.int (nI ix)), some (.int (nI md)), none, none, none] [] s
  have hn8 := hT.2.1
  have hkk := w_sq_ok (3 * j) 3 p0 hq0
  have hF : r_G s s := r_G_rf
  have hS : v_S t n (3 * j) 3 True s := Or.inl ⟨p0, f0, hq0, i30, i31, if0, iX, trivial⟩
  refine r_aload_n dX12_readOperation_0 rfl rfl ?_
  refine n_const 1 dX12_readOperation_1 (by decide) ?_
  refine s_V1V mX12_readNumber dX12_readOperation_2 okX12_readNumber lX12_311 npX12_readNumber lysX12 rfl (by decide) (by decide) (by decide) (Nat.le_of_ble_eq_true rfl) (Nat.le_of_ble_eq_true rfl) (c_rdNum (k := 3) hT hS) (fun s1 hq => ?_)
  obtain ⟨hN, hg1⟩ := hq
  replace hN := v_N_Q hN
  replace hT := v_T_G hT hg1
  replace hF := r_G_tr hF hg1
  refine r_aload_n dX12_readOperation_5 rfl rfl ?_
  refine s_getI dX12_readOperation_6 fX12_289 lysX12 rfl rfl ?_
  refine r_istore dX12_readOperation_9 (by decide) rfl ?_
  refine r_aload_n dX12_readOperation_11 rfl rfl ?_
  refine n_bip 46 dX12_readOperation_12 (by decide) ?_
  refine s_V1V mX12_wants dX12_readOperation_14 okX12_wants lX12_314 npX12_wants lysX12 rfl (by decide) (by decide) (by decide) (Nat.le_of_ble_eq_true rfl) (Nat.le_of_ble_eq_true rfl) (c_wnt (k' := 4) (c := 46) hT hN (by decide) w_nx_3 (by decide)) (fun s1 hq => ?_)
  obtain ⟨hS, hg1⟩ := hq
  replace hT := v_T_G hT hg1
  replace hF := r_G_tr hF hg1
  refine r_aload_n dX12_readOperation_17 rfl rfl ?_
  refine n_const 3 dX12_readOperation_18 (by decide) ?_
  refine s_V1V mX12_readNumber dX12_readOperation_19 okX12_readNumber lX12_311 npX12_readNumber lysX12 rfl (by decide) (by decide) (by decide) (Nat.le_of_ble_eq_true rfl) (Nat.le_of_ble_eq_true rfl) (c_rdNum (k := 4) hT hS) (fun s1 hq => ?_)
  obtain ⟨hN, hg1⟩ := hq
  replace hN := v_N_Q hN
  replace hT := v_T_G hT hg1
  replace hF := r_G_tr hF hg1
  refine r_aload_n dX12_readOperation_22 rfl rfl ?_
  refine s_getI dX12_readOperation_23 fX12_289 lysX12 rfl rfl ?_
  refine r_istore dX12_readOperation_26 (by decide) rfl ?_
  refine r_aload_n dX12_readOperation_28 rfl rfl ?_
  refine n_bip 46 dX12_readOperation_29 (by decide) ?_
  refine s_V1V mX12_wants dX12_readOperation_31 okX12_wants lX12_314 npX12_wants lysX12 rfl (by decide) (by decide) (by decide) (Nat.le_of_ble_eq_true rfl) (Nat.le_of_ble_eq_true rfl) (c_wnt (k' := 5) (c := 46) hT hN (by decide) w_nx_4 (by decide)) (fun s1 hq => ?_)
  obtain ⟨hS, hg1⟩ := hq
  replace hT := v_T_G hT hg1
  replace hF := r_G_tr hF hg1
  refine r_aload_n dX12_readOperation_34 rfl rfl ?_
  refine n_const 1 dX12_readOperation_35 (by decide) ?_
  refine s_V1V mX12_readNumber dX12_readOperation_36 okX12_readNumber lX12_311 npX12_readNumber lysX12 rfl (by decide) (by decide) (by decide) (Nat.le_of_ble_eq_true rfl) (Nat.le_of_ble_eq_true rfl) (c_rdNum (k := 5) hT hS) (fun s1 hq => ?_)
  obtain ⟨hN, hg1⟩ := hq
  replace hN := v_N_Q hN
  replace hT := v_T_G hT hg1
  replace hF := r_G_tr hF hg1
  have hki : w_ki t n (3 * j) ≠ 0 := by rw [w_ki_e hq0]; decide
  have hK2 := v_K_s hg hK hki
  have hX9 := v_X_G hX0 hF
  rcases hN with ⟨p, f, hq5, hc0, h30, h31, h32, hfu, hX5, ⟨⟨⟨-, e4⟩, e5⟩, -⟩⟩ | hD
  · have w1 := w_va_le (t := t) (n := n) (i := 3 * j)
    have w2 := w_va_le (t := t) (n := n) (i := 3 * j + 1)
    have w3 := w_va_le (t := t) (n := n) (i := 3 * j + 2)
    rw [e4, e5]
    rcases hX9 with ⟨X1, jb, st, he, hM, g33⟩ | ⟨w, Y, he, hM, hgY, g33, g34, g35⟩
    · have hok := w_ex_ok (t := t) (n := n) hg j
      rw [he] at hok
      have hg1X : x_gd X1 := hok.1
      have hlk := hK X1 jb st he
      have hmd : X1 0 - 1 = md := by omega
      have hz1 := x_sz hg1X.1
      have hjb9 := x_jb hg1X.1 (show md < X1 0 by omega)
      refine r_aload_n dX12_readOperation_39 rfl rfl ?_
      refine s_getI dX12_readOperation_40 fX12_292 lysX12 rfl h31 ?_
      refine r_if_ge (tgt := 54) dX12_readOperation_43 (by decide) (fun c43 => ?_) (fun c43 => ?_)
      · exact absurd c43 (by decide)
      · refine r_aload_n dX12_readOperation_46 rfl rfl ?_
        refine s_getI dX12_readOperation_47 fX12_302 lysX12 rfl g33 ?_
        refine r_iconst (v := -1) dX12_readOperation_50 (by decide) ?_
        refine r_icmp_eq (tgt := 55) dX12_readOperation_51 (by decide) (fun c51 => ?_) (fun c51 => ?_)
        · refine r_iload dX12_readOperation_55 rfl ?_
          refine s_S1I mX12_isMachine dX12_readOperation_57 okX12_isMachine lX12_122 npX12_isMachine (by decide) (by decide) (by decide) (Nat.le_of_ble_eq_true rfl) (Nat.le_of_ble_eq_true rfl) c_mIsMachine (fun x s1 hq => ?_)
          obtain ⟨e9, rfl⟩ := hq
          replace e9 := e9.symm
          subst e9
          rw [iLt_nI (show w_va t n (3 * j) < 2 ^ 31 by omega)]
          refine b_ifeq (tgt := 98) dX12_readOperation_60 (by decide) (fun c60 => ?_) (fun c60 => ?_)
          · refine r_aload_n dX12_readOperation_98 rfl rfl ?_
            refine r_iload_n dX12_readOperation_99 rfl rfl ?_
            refine n_const 3 dX12_readOperation_100 (by decide) ?_
            refine r_iload_n dX12_readOperation_101 rfl rfl ?_
            refine s_V3V mX12_cannot dX12_readOperation_102 okX12_cannot lX12_318 npX12_cannot lysX12 rfl (by decide) (by decide) (by decide) (Nat.le_of_ble_eq_true rfl) (Nat.le_of_ble_eq_true rfl) (c_cannot g33) (fun s1 hq => ?_)
            obtain ⟨y1, y2, y3, k1, k2⟩ := hq
            refine r_goto (tgt := 123) dX12_readOperation_105 (by decide) ?_
            refine s_vret dX12_readOperation_123 rfl ?_
            first
              | (have hof : w_of X1 (w_va t n (3 * j)) (w_va t n (3 * j + 1)) (w_va t n (3 * j + 2)) = true := by
                   unfold w_of
                   rw [hmd, c60, c72, decide_eq_false c85, c95]
                   rfl
                 have hex2 : w_ex t n X0 (j + 1) = .inl (x_addOp X1 (X1 0 - 1) (w_va t n (3 * j)) (w_va t n (3 * j + 1)) (w_va t n (3 * j + 2)), jb, st + 1) := by
                   rw [w_ex_l he]
                   unfold w_s1
                   rw [if_neg hki, if_pos hof]
                 rw [← hmd] at hM2
                 refine ⟨rfl, Or.inl ⟨p, f, hq5, hc0, (by rw [hf7 212 (by omega)]; exact h30), (by rw [hf7 212 (by omega)]; exact h31), hfu, hX5, trivial, Or.inl ⟨_, _, _, hex2, hM2, by rw [hf7 212 (by omega)]; exact g33⟩⟩, hK2, r_F_tr (r_F_G hF) (r_F_fr hf7)⟩)
              | (have hof : w_of X1 (w_va t n (3 * j)) (w_va t n (3 * j + 1)) (w_va t n (3 * j + 2)) = false := by
                   unfold w_of
                   rw [hmd]
                   first
                     | (rw [c60]; rfl)
                     | (rw [c72]; rw [Bool.and_false]; rfl)
                     | (rw [decide_eq_true c85, Bool.true_or, Bool.not_true, Bool.and_false])
                     | (rw [c95, Bool.or_true, Bool.not_true, Bool.and_false])
                 have hex2 : w_ex t n X0 (j + 1) = .inr (jn, 3, ix) := by
                   rw [w_ex_l he]
                   unfold w_s1
                   rw [if_neg hki, if_neg (by rw [hof]; decide), hlk.1, ← hlk.2.1]
                   rfl
                 refine ⟨rfl, Or.inl ⟨p, f, hq5, hc0, (by rw [k1 30 (by omega)]; exact h30), (by rw [k1 31 (by omega)]; exact h31), hfu, hX5, trivial, Or.inr ⟨(jn, 3, ix), X1, hex2, fun k hk => by rw [k2 213 (by omega)]; exact hM k hk, hg1X, y1, y2, y3⟩⟩, hK2, r_F_tr (r_F_G hF) ⟨fun q hq9 => k1 q (by omega), fun k a _ => k2 k a⟩⟩)
          · refine r_iload dX12_readOperation_63 rfl ?_
            refine r_aload_n dX12_readOperation_65 rfl rfl ?_
            refine s_getI dX12_readOperation_66 fX12_289 lysX12 rfl h32 ?_
            refine s_S2I mX12_areProperties dX12_readOperation_69 okX12_areProperties lX12_125 npX12_areProperties (by decide) (by decide) (by decide) (Nat.le_of_ble_eq_true rfl) (Nat.le_of_ble_eq_true rfl) c_mAreProperties (fun x s1 hq => ?_)
            obtain ⟨e9, rfl⟩ := hq
            replace e9 := e9.symm
            subst e9
            rw [iIn_nI (show w_va t n (3 * j + 1) < 2 ^ 31 by omega), iIn_nI (show w_va t n (3 * j + 2) < 2 ^ 31 by omega), show decide (0 ≤ w_va t n (3 * j + 2) ∧ w_va t n (3 * j + 2) ≤ 2) = decide (w_va t n (3 * j + 2) < 3) from decide_eq_decide.mpr ⟨fun z => by omega, fun z => by omega⟩]
            refine b_ifeq (tgt := 98) dX12_readOperation_72 (by decide) (fun c72 => ?_) (fun c72 => ?_)
            · refine r_aload_n dX12_readOperation_98 rfl rfl ?_
              refine r_iload_n dX12_readOperation_99 rfl rfl ?_
              refine n_const 3 dX12_readOperation_100 (by decide) ?_
              refine r_iload_n dX12_readOperation_101 rfl rfl ?_
              refine s_V3V mX12_cannot dX12_readOperation_102 okX12_cannot lX12_318 npX12_cannot lysX12 rfl (by decide) (by decide) (by decide) (Nat.le_of_ble_eq_true rfl) (Nat.le_of_ble_eq_true rfl) (c_cannot g33) (fun s1 hq => ?_)
              obtain ⟨y1, y2, y3, k1, k2⟩ := hq
              refine r_goto (tgt := 123) dX12_readOperation_105 (by decide) ?_
              refine s_vret dX12_readOperation_123 rfl ?_
              first
                | (have hof : w_of X1 (w_va t n (3 * j)) (w_va t n (3 * j + 1)) (w_va t n (3 * j + 2)) = true := by
                     unfold w_of
                     rw [hmd, c60, c72, decide_eq_false c85, c95]
                     rfl
                   have hex2 : w_ex t n X0 (j + 1) = .inl (x_addOp X1 (X1 0 - 1) (w_va t n (3 * j)) (w_va t n (3 * j + 1)) (w_va t n (3 * j + 2)), jb, st + 1) := by
                     rw [w_ex_l he]
                     unfold w_s1
                     rw [if_neg hki, if_pos hof]
                   rw [← hmd] at hM2
                   refine ⟨rfl, Or.inl ⟨p, f, hq5, hc0, (by rw [hf7 212 (by omega)]; exact h30), (by rw [hf7 212 (by omega)]; exact h31), hfu, hX5, trivial, Or.inl ⟨_, _, _, hex2, hM2, by rw [hf7 212 (by omega)]; exact g33⟩⟩, hK2, r_F_tr (r_F_G hF) (r_F_fr hf7)⟩)
                | (have hof : w_of X1 (w_va t n (3 * j)) (w_va t n (3 * j + 1)) (w_va t n (3 * j + 2)) = false := by
                     unfold w_of
                     rw [hmd]
                     first
                       | (rw [c60]; rfl)
                       | (rw [c72]; rw [Bool.and_false]; rfl)
                       | (rw [decide_eq_true c85, Bool.true_or, Bool.not_true, Bool.and_false])
                       | (rw [c95, Bool.or_true, Bool.not_true, Bool.and_false])
                   have hex2 : w_ex t n X0 (j + 1) = .inr (jn, 3, ix) := by
                     rw [w_ex_l he]
                     unfold w_s1
                     rw [if_neg hki, if_neg (by rw [hof]; decide), hlk.1, ← hlk.2.1]
                     rfl
                   refine ⟨rfl, Or.inl ⟨p, f, hq5, hc0, (by rw [k1 30 (by omega)]; exact h30), (by rw [k1 31 (by omega)]; exact h31), hfu, hX5, trivial, Or.inr ⟨(jn, 3, ix), X1, hex2, fun k hk => by rw [k2 213 (by omega)]; exact hM k hk, hg1X, y1, y2, y3⟩⟩, hK2, r_F_tr (r_F_G hF) ⟨fun q hq9 => k1 q (by omega), fun k a _ => k2 k a⟩⟩)
            · refine r_aload_n dX12_readOperation_75 rfl rfl ?_
              refine s_getR dX12_readOperation_76 fX12_9 lysX12 rfl ?_
              refine n_bip 17 dX12_readOperation_79 (by decide) ?_
              refine r_iload_n dX12_readOperation_81 rfl rfl ?_
              refine n_add dX12_readOperation_82 ?_
              refine m_ld dX12_readOperation_83 hM (by omega) ?_
              refine n_const 4 dX12_readOperation_84 (by decide) ?_
              refine n_ceq (tgt := 98) dX12_readOperation_85 (by decide) (by omega) (by omega) (fun c85 => ?_) (fun c85 => ?_)
              · refine r_aload_n dX12_readOperation_98 rfl rfl ?_
                refine r_iload_n dX12_readOperation_99 rfl rfl ?_
                refine n_const 3 dX12_readOperation_100 (by decide) ?_
                refine r_iload_n dX12_readOperation_101 rfl rfl ?_
                refine s_V3V mX12_cannot dX12_readOperation_102 okX12_cannot lX12_318 npX12_cannot lysX12 rfl (by decide) (by decide) (by decide) (Nat.le_of_ble_eq_true rfl) (Nat.le_of_ble_eq_true rfl) (c_cannot g33) (fun s1 hq => ?_)
                obtain ⟨y1, y2, y3, k1, k2⟩ := hq
                refine r_goto (tgt := 123) dX12_readOperation_105 (by decide) ?_
                refine s_vret dX12_readOperation_123 rfl ?_
                first
                  | (have hof : w_of X1 (w_va t n (3 * j)) (w_va t n (3 * j + 1)) (w_va t n (3 * j + 2)) = true := by
                       unfold w_of
                       rw [hmd, c60, c72, decide_eq_false c85, c95]
                       rfl
                     have hex2 : w_ex t n X0 (j + 1) = .inl (x_addOp X1 (X1 0 - 1) (w_va t n (3 * j)) (w_va t n (3 * j + 1)) (w_va t n (3 * j + 2)), jb, st + 1) := by
                       rw [w_ex_l he]
                       unfold w_s1
                       rw [if_neg hki, if_pos hof]
                     rw [← hmd] at hM2
                     refine ⟨rfl, Or.inl ⟨p, f, hq5, hc0, (by rw [hf7 212 (by omega)]; exact h30), (by rw [hf7 212 (by omega)]; exact h31), hfu, hX5, trivial, Or.inl ⟨_, _, _, hex2, hM2, by rw [hf7 212 (by omega)]; exact g33⟩⟩, hK2, r_F_tr (r_F_G hF) (r_F_fr hf7)⟩)
                  | (have hof : w_of X1 (w_va t n (3 * j)) (w_va t n (3 * j + 1)) (w_va t n (3 * j + 2)) = false := by
                       unfold w_of
                       rw [hmd]
                       first
                         | (rw [c60]; rfl)
                         | (rw [c72]; rw [Bool.and_false]; rfl)
                         | (rw [decide_eq_true c85, Bool.true_or, Bool.not_true, Bool.and_false])
                         | (rw [c95, Bool.or_true, Bool.not_true, Bool.and_false])
                     have hex2 : w_ex t n X0 (j + 1) = .inr (jn, 3, ix) := by
                       rw [w_ex_l he]
                       unfold w_s1
                       rw [if_neg hki, if_neg (by rw [hof]; decide), hlk.1, ← hlk.2.1]
                       rfl
                     refine ⟨rfl, Or.inl ⟨p, f, hq5, hc0, (by rw [k1 30 (by omega)]; exact h30), (by rw [k1 31 (by omega)]; exact h31), hfu, hX5, trivial, Or.inr ⟨(jn, 3, ix), X1, hex2, fun k hk => by rw [k2 213 (by omega)]; exact hM k hk, hg1X, y1, y2, y3⟩⟩, hK2, r_F_tr (r_F_G hF) ⟨fun q hq9 => k1 q (by omega), fun k a _ => k2 k a⟩⟩)
              · refine r_aload_n dX12_readOperation_88 rfl rfl ?_
                refine r_iload_n dX12_readOperation_89 rfl rfl ?_
                refine r_iload dX12_readOperation_90 rfl ?_
                refine s_V2I mX12_hasMachine dX12_readOperation_92 okX12_hasMachine lX12_128 npX12_hasMachine lysX12 rfl (by decide) (by decide) (by decide) (Nat.le_of_ble_eq_true rfl) (Nat.le_of_ble_eq_true rfl) (c_hasMachine hM hg1X.1 (by omega) (of_decide_eq_true c60)) (fun x s1 hq => ?_)
                obtain ⟨e9, rfl⟩ := hq
                replace e9 := e9.symm
                subst e9
                refine b_ifeq (tgt := 108) dX12_readOperation_95 (by decide) (fun c95 => ?_) (fun c95 => ?_)
                · refine r_aload_n dX12_readOperation_108 rfl rfl ?_
                  refine r_iload_n dX12_readOperation_109 rfl rfl ?_
                  refine r_iload dX12_readOperation_110 rfl ?_
                  refine r_iload dX12_readOperation_112 rfl ?_
                  refine r_aload_n dX12_readOperation_114 rfl rfl ?_
                  refine s_getI dX12_readOperation_115 fX12_289 lysX12 rfl h32 ?_
                  refine s_V4I mX12_createOperation dX12_readOperation_118 okX12_createOperation lX12_131 npX12_createOperation lysX12 rfl (by decide) (by decide) (by decide) (Nat.le_of_ble_eq_true rfl) (Nat.le_of_ble_eq_true rfl) (c_mCreateOperation hM (by omega) (of_decide_eq_true c60) (x_room hg1X.1 (by omega) (of_decide_eq_true c60) (by omega) c95).1 (by omega) (x_room hg1X.1 (by omega) (of_decide_eq_true c60) (by omega) c95).2) (fun x s1 hq => ?_)
                  obtain ⟨rfl, hM2, hf7⟩ := hq
                  refine r_istore dX12_readOperation_121 (by decide) rfl ?_
                  refine s_vret dX12_readOperation_123 rfl ?_
                  first
                    | (have hof : w_of X1 (w_va t n (3 * j)) (w_va t n (3 * j + 1)) (w_va t n (3 * j + 2)) = true := by
                         unfold w_of
                         rw [hmd, c60, c72, decide_eq_false c85, c95]
                         rfl
                       have hex2 : w_ex t n X0 (j + 1) = .inl (x_addOp X1 (X1 0 - 1) (w_va t n (3 * j)) (w_va t n (3 * j + 1)) (w_va t n (3 * j + 2)), jb, st + 1) := by
                         rw [w_ex_l he]
                         unfold w_s1
                         rw [if_neg hki, if_pos hof]
                       rw [← hmd] at hM2
                       refine ⟨rfl, Or.inl ⟨p, f, hq5, hc0, (by rw [hf7 212 (by omega)]; exact h30), (by rw [hf7 212 (by omega)]; exact h31), hfu, hX5, trivial, Or.inl ⟨_, _, _, hex2, hM2, by rw [hf7 212 (by omega)]; exact g33⟩⟩, hK2, r_F_tr (r_F_G hF) (r_F_fr hf7)⟩)
                    | (have hof : w_of X1 (w_va t n (3 * j)) (w_va t n (3 * j + 1)) (w_va t n (3 * j + 2)) = false := by
                         unfold w_of
                         rw [hmd]
                         first
                           | (rw [c60]; rfl)
                           | (rw [c72]; rw [Bool.and_false]; rfl)
                           | (rw [decide_eq_true c85, Bool.true_or, Bool.not_true, Bool.and_false])
                           | (rw [c95, Bool.or_true, Bool.not_true, Bool.and_false])
                       have hex2 : w_ex t n X0 (j + 1) = .inr (jn, 3, ix) := by
                         rw [w_ex_l he]
                         unfold w_s1
                         rw [if_neg hki, if_neg (by rw [hof]; decide), hlk.1, ← hlk.2.1]
                         rfl
                       refine ⟨rfl, Or.inl ⟨p, f, hq5, hc0, (by rw [k1 30 (by omega)]; exact h30), (by rw [k1 31 (by omega)]; exact h31), hfu, hX5, trivial, Or.inr ⟨(jn, 3, ix), X1, hex2, fun k hk => by rw [k2 213 (by omega)]; exact hM k hk, hg1X, y1, y2, y3⟩⟩, hK2, r_F_tr (r_F_G hF) ⟨fun q hq9 => k1 q (by omega), fun k a _ => k2 k a⟩⟩)
                · refine r_aload_n dX12_readOperation_98 rfl rfl ?_
                  refine r_iload_n dX12_readOperation_99 rfl rfl ?_
                  refine n_const 3 dX12_readOperation_100 (by decide) ?_
                  refine r_iload_n dX12_readOperation_101 rfl rfl ?_
                  refine s_V3V mX12_cannot dX12_readOperation_102 okX12_cannot lX12_318 npX12_cannot lysX12 rfl (by decide) (by decide) (by decide) (Nat.le_of_ble_eq_true rfl) (Nat.le_of_ble_eq_true rfl) (c_cannot g33) (fun s1 hq => ?_)
                  obtain ⟨y1, y2, y3, k1, k2⟩ := hq
                  refine r_goto (tgt := 123) dX12_readOperation_105 (by decide) ?_
                  refine s_vret dX12_readOperation_123 rfl ?_
                  first
                    | (have hof : w_of X1 (w_va t n (3 * j)) (w_va t n (3 * j + 1)) (w_va t n (3 * j + 2)) = true := by
                         unfold w_of
                         rw [hmd, c60, c72, decide_eq_false c85, c95]
                         rfl
                       have hex2 : w_ex t n X0 (j + 1) = .inl (x_addOp X1 (X1 0 - 1) (w_va t n (3 * j)) (w_va t n (3 * j + 1)) (w_va t n (3 * j + 2)), jb, st + 1) := by
                         rw [w_ex_l he]
                         unfold w_s1
                         rw [if_neg hki, if_pos hof]
                       rw [← hmd] at hM2
                       refine ⟨rfl, Or.inl ⟨p, f, hq5, hc0, (by rw [hf7 212 (by omega)]; exact h30), (by rw [hf7 212 (by omega)]; exact h31), hfu, hX5, trivial, Or.inl ⟨_, _, _, hex2, hM2, by rw [hf7 212 (by omega)]; exact g33⟩⟩, hK2, r_F_tr (r_F_G hF) (r_F_fr hf7)⟩)
                    | (have hof : w_of X1 (w_va t n (3 * j)) (w_va t n (3 * j + 1)) (w_va t n (3 * j + 2)) = false := by
                         unfold w_of
                         rw [hmd]
                         first
                           | (rw [c60]; rfl)
                           | (rw [c72]; rw [Bool.and_false]; rfl)
                           | (rw [decide_eq_true c85, Bool.true_or, Bool.not_true, Bool.and_false])
                           | (rw [c95, Bool.or_true, Bool.not_true, Bool.and_false])
                       have hex2 : w_ex t n X0 (j + 1) = .inr (jn, 3, ix) := by
                         rw [w_ex_l he]
                         unfold w_s1
                         rw [if_neg hki, if_neg (by rw [hof]; decide), hlk.1, ← hlk.2.1]
                         rfl
                       refine ⟨rfl, Or.inl ⟨p, f, hq5, hc0, (by rw [k1 30 (by omega)]; exact h30), (by rw [k1 31 (by omega)]; exact h31), hfu, hX5, trivial, Or.inr ⟨(jn, 3, ix), X1, hex2, fun k hk => by rw [k2 213 (by omega)]; exact hM k hk, hg1X, y1, y2, y3⟩⟩, hK2, r_F_tr (r_F_G hF) ⟨fun q hq9 => k1 q (by omega), fun k a _ => k2 k a⟩⟩)
        · exact absurd rfl c51
    · have hok := w_ex_ok (t := t) (n := n) hg j
      rw [he] at hok
      have hw80 : w.1 ≤ j := hok.1
      refine r_aload_n dX12_readOperation_39 rfl rfl ?_
      refine s_getI dX12_readOperation_40 fX12_292 lysX12 rfl h31 ?_
      refine r_if_ge (tgt := 54) dX12_readOperation_43 (by decide) (fun c43 => ?_) (fun c43 => ?_)
      · exact absurd c43 (by decide)
      · refine r_aload_n dX12_readOperation_46 rfl rfl ?_
        refine s_getI dX12_readOperation_47 fX12_302 lysX12 rfl g33 ?_
        refine r_iconst (v := -1) dX12_readOperation_50 (by decide) ?_
        refine r_icmp_eq (tgt := 55) dX12_readOperation_51 (by decide) (fun c51 => ?_) (fun c51 => ?_)
        · exact absurd c51 (nI_m1 (by omega))
        · refine s_vret dX12_readOperation_54 rfl ?_
          refine ⟨rfl, Or.inl ⟨p, f, hq5, hc0, h30, h31, hfu, hX5, trivial, Or.inr ⟨w, Y, w_ex_r he, hM, hgY, g33, g34, g35⟩⟩, hK2, r_F_G hF⟩
  · have hYY := v_X_Y hg hX9
    obtain ⟨q9, p9, hR9, hq80, h31, h30⟩ := hD
    refine r_aload_n dX12_readOperation_39 rfl rfl ?_
    refine s_getI dX12_readOperation_40 fX12_292 lysX12 rfl h31 ?_
    refine r_if_ge (tgt := 54) dX12_readOperation_43 (by decide) (fun c43 => ?_) (fun c43 => ?_)
    · refine s_vret dX12_readOperation_54 rfl ?_
      exact ⟨rfl, Or.inr ⟨⟨q9, p9, hR9, hq80, h31, h30⟩, hYY⟩, hK2, r_F_G hF⟩
    · exact absurd (nI_nn (by omega)) c43
end
