section
/-! ===== the reference: findBest, takeBest, best, reoptimize ===== -/
def b_F (s s1 : s_T) : Prop := (∀ j, j ≠ 21 → s1 212 j = s 212 j) ∧ ∀ k, k ≠ 212 → k ≠ 213 → k ≠ 218 → k ≠ 219 → k ≠ 224 → k ≠ 225 → k ≠ 226 → s1 k = s k
theorem b_F_tr {s s1 s2 : s_T} (h1 : b_F s s1) (h2 : b_F s1 s2) : b_F s s2 := ⟨fun j hj => (h2.1 j hj).trans (h1.1 j hj), fun k a b c d e f g => (h2.2 k a b c d e f g).trans (h1.2 k a b c d e f g)⟩
theorem b_F_t {s s1 : s_T} (h : t_F s s1) : b_F s s1 := ⟨h.1, fun k a b c d e f _ => h.2 k a b c d e f⟩
theorem b_F_fr {lo hi : Nat} {s s1 : s_T} (h : s_fr lo hi s s1) (hb : (213 ≤ lo ∧ hi ≤ 214) ∨ (218 ≤ lo ∧ hi ≤ 220) ∨ (224 ≤ lo ∧ hi ≤ 227)) : b_F s s1 := ⟨fun j _ => by rw [h 212 (by omega)], fun k a b c d e f g => h k (by omega)⟩
theorem b_F_rf {s : s_T} : b_F s s := ⟨fun _ _ => rfl, fun _ _ _ _ _ _ _ _ => rfl⟩
theorem m_op_b {op : Nat → Bool} {s s1 : s_T} (h : m_op op s) (hf : b_F s s1) : m_op op s1 := fun m hm => by rw [hf.2 220 (by omega) (by omega) (by omega) (by omega) (by omega) (by omega) (by omega)]; exact h m hm
theorem m_H_b {hk : Option Nat} {hu : Nat} {s s1 : s_T} (h : m_H hk hu s) (hf : b_F s s1) : m_H hk hu s1 := by
  unfold m_H
  rw [hf.1 14 (by omega), hf.1 15 (by omega)]
  exact h
set_option maxRecDepth 20000 in
set_option maxHeartbeats 1000000 in
theorem c_findBest {G : q_G} {s : s_T} {X : x_T} {op : Nat → Bool} {m hu : Nat} (hM : m_R X s) (hop : m_op op s) (hH : m_H none hu s) (hu2 : hu ≤ 50000) (h225 : ∀ k, k < 20 → s 225 k = bI false) (hw : x_wf X) (hm : m < 4) : s_W G mX12_findBest 13 0 0 (c_V (fun s1 => m_R X s1 ∧ s1 212 21 = oI ((x_bo X op m).map Prod.fst) ∧ (∀ c, x_bo X op m = some c → ∀ i, i < X (179 + m) → s1 224 i = nI (x_so X m (x_gt c.2 i))) ∧ (∀ k, k < 20 → s1 225 k = bI false) ∧ b_F s s1)) 0 (q_ent mX12_findBest [.ref 212, .int (nI m)]) [] s := by
  show s_W G mX12_findBest 13 0 0 _ 0 [some (.ref 212), some (.int (nI m)), none, none] [] s
  have hs := x_sz hw
  have h5 := (x_mn hw hm).2
  have l2 : ∀ f i Y u1, m_R Y u1 → (∀ k, k < 183 + 5 * m + i ∨ 183 + 5 * m + X (179 + m) ≤ k → Y k = X k) → (∀ p, p < X (179 + m) → u1 226 p = nI (X (183 + 5 * m + p))) → u1 212 21 = oI ((x_bo X op m).map Prod.fst) → (∀ c, x_bo X op m = some c → ∀ i, i < X (179 + m) → u1 224 i = nI (x_so X m (x_gt c.2 i))) → (∀ k, k < 20 → u1 225 k = bI false) → b_F s u1 → i ≤ X (179 + m) → X (179 + m) < i + f → s_W G mX12_findBest 13 0 0 (c_V (fun s1 => m_R X s1 ∧ s1 212 21 = oI ((x_bo X op m).map Prod.fst) ∧ (∀ c, x_bo X op m = some c → ∀ i, i < X (179 + m) → s1 224 i = nI (x_so X m (x_gt c.2 i))) ∧ (∀ k, k < 20 → s1 225 k = bI false) ∧ b_F s s1)) 49 [some (.ref 212), some (.int (nI m)), some (.int (nI (X (179 + m)))), some (.int (nI i))] [] u1 := by
    intro f
    induction f with
    | zero =>
      intro i Y u1 hM hY how g1 g2 g3 hF hi hme
      exact absurd hme (by omega)
    | succ f ih =>
      intro i Y u1 hM hY how g1 g2 g3 hF hi hme
      refine r_iload_n dX12_findBest_49 rfl rfl ?_
      refine r_iload_n dX12_findBest_50 rfl rfl ?_
      refine n_cge (tgt := 72) dX12_findBest_51 (by decide) (by omega) (by omega) (fun c51 => ?_) (fun c51 => ?_)
      · refine s_vret dX12_findBest_72 rfl ?_
        have e9 : i = X (179 + m) := by omega
        subst e9
        have hYX : Y = X := funext (fun k => hY k (by omega))
        rw [hYX] at hM
        exact ⟨rfl, hM, g1, g2, g3, hF⟩
      · refine r_aload_n dX12_findBest_54 rfl rfl ?_
        refine r_iload_n dX12_findBest_55 rfl rfl ?_
        refine r_iload_n dX12_findBest_56 rfl rfl ?_
        refine r_aload_n dX12_findBest_57 rfl rfl ?_
        refine s_getR dX12_findBest_58 fX12_55 lysX12 rfl ?_
        refine r_iload_n dX12_findBest_61 rfl rfl ?_
        refine a_ld dX12_findBest_62 rfl (by omega) (by decide) (how i c51) ?_
        refine s_V3V mX12_setOrdered dX12_findBest_63 okX12_setOrdered lX12_114 npX12_setOrdered lysX12 rfl (by decide) (by decide) (by decide) (Nat.le_of_ble_eq_true rfl) (Nat.le_of_ble_eq_true rfl) (c_setOrdered hM (by omega) (by omega)) (fun s1 hq => ?_)
        obtain ⟨hM, hf3⟩ := hq
        refine n_inc dX12_findBest_66 rfl (n_i1 _) (by decide) rfl ?_
        refine r_goto (tgt := 49) dX12_findBest_69 (by decide) ?_
        refine ih (i + 1) _ s1 hM (fun k hk => ?_) (fun p hp => by rw [hf3 226 (by omega)]; exact how p hp) (by rw [hf3 212 (by omega)]; exact g1) (by rw [hf3 224 (by omega)]; exact g2) (by rw [hf3 225 (by omega)]; exact g3) (b_F_tr hF (b_F_fr hf3 (by omega))) (by omega) (by omega)
        by_cases e : k = 183 + 5 * m + i
        · subst e; rw [va_up_s]
        · rw [va_up_n e]; exact hY k (by omega)
  have l1 : ∀ f i u1, m_R X u1 → (∀ p, p < i → u1 226 p = nI (X (183 + 5 * m + p))) → (∀ k, k < 20 → u1 225 k = bI false) → b_F s u1 → i ≤ X (179 + m) → X (179 + m) < i + f → s_W G mX12_findBest 13 0 0 (c_V (fun s1 => m_R X s1 ∧ s1 212 21 = oI ((x_bo X op m).map Prod.fst) ∧ (∀ c, x_bo X op m = some c → ∀ i, i < X (179 + m) → s1 224 i = nI (x_so X m (x_gt c.2 i))) ∧ (∀ k, k < 20 → s1 225 k = bI false) ∧ b_F s s1)) 13 [some (.ref 212), some (.int (nI m)), some (.int (nI (X (179 + m)))), some (.int (nI i))] [] u1 := by
    intro f
    induction f with
    | zero =>
      intro i u1 hM how h225 hF hi hme
      exact absurd hme (by omega)
    | succ f ih =>
      intro i u1 hM how h225 hF hi hme
      refine r_iload_n dX12_findBest_13 rfl rfl ?_
      refine r_iload_n dX12_findBest_14 rfl rfl ?_
      refine n_cge (tgt := 36) dX12_findBest_15 (by decide) (by omega) (by omega) (fun c15 => ?_) (fun c15 => ?_)
      · have e9 : i = X (179 + m) := by omega
        subst e9
        refine r_aload_n dX12_findBest_36 rfl rfl ?_
        refine r_iconst (v := -1) dX12_findBest_37 (by decide) ?_
        refine a_put dX12_findBest_38 gX12_246 lysX12 rfl rfl rfl (fun s2 hs2 hf2 => ?_)
        have hF2 : b_F u1 s2 := ⟨fun j hj => by rw [hs2, pk_un hj], fun k a b c d e f g => hf2 k (by omega)⟩
        have hS : t_S X op m hu [] none s2 := ⟨⟨X, m_R_fr hM hf2 (Or.inr (by omega)), fun _ _ => rfl, fun i hi => absurd hi (by show ¬ i < 0; omega)⟩, fun k hk => by rw [hf2 225 (by omega), a_us_nil]; exact h225 k hk, by rw [hs2, pk_us]; rfl, fun c z => (by cases z), m_op_b hop (b_F_tr hF hF2), m_H_b hH (b_F_tr hF hF2)⟩
        have q9 := s_mono (d' := 12) (by omega) (Nat.le_refl _) (Nat.le_refl _) (fun _ _ z => z) (c_tryOrders (G := G) hw hm hu2 (X (179 + m)) [] none s2 (by show 0 + _ = _; omega) ⟨fun i hi => absurd hi (by show ¬ i < 0; omega), fun i hi => absurd hi (by show ¬ i < 0; omega)⟩ hS)
        refine r_aload_n dX12_findBest_41 rfl rfl ?_
        refine r_iload_n dX12_findBest_42 rfl rfl ?_
        refine n_const 0 dX12_findBest_43 (by decide) ?_
        refine s_V2V mX12_tryOrders dX12_findBest_44 okX12_tryOrders lX12_249 npX12_tryOrders lysX12 rfl (by decide) (by decide) (by decide) (Nat.le_of_ble_eq_true rfl) (Nat.le_of_ble_eq_true rfl) q9 (fun s1 hq => ?_)
        obtain ⟨⟨⟨Y, hM6, hY6⟩, hus6, hb16, hb26, hop6, hH6⟩, hF6⟩ := hq
        refine n_const 0 dX12_findBest_47 (by decide) ?_
        refine r_istore_n dX12_findBest_48 rfl (by decide) rfl ?_
        refine l2 (X (179 + m) + 1) 0 Y s1 hM6 (fun k hk => hY6.1 k (by omega)) (fun p hp => ?_) hb16 (fun c hc i hi => (hb26 c hc).2 i hi) (fun k hk => hus6 k hk) (b_F_tr hF (b_F_tr hF2 (b_F_t hF6))) (by omega) (by omega)
        rw [hF6.2 226 (by omega) (by omega) (by omega) (by omega) (by omega) (by omega), hf2 226 (by omega)]; exact how p hp
      · refine r_aload_n dX12_findBest_18 rfl rfl ?_
        refine s_getR dX12_findBest_19 fX12_55 lysX12 rfl ?_
        refine r_iload_n dX12_findBest_22 rfl rfl ?_
        refine r_aload_n dX12_findBest_23 rfl rfl ?_
        refine r_iload_n dX12_findBest_24 rfl rfl ?_
        refine r_iload_n dX12_findBest_25 rfl rfl ?_
        refine s_V2I mX12_ordered dX12_findBest_26 okX12_ordered lX12_142 npX12_ordered lysX12 rfl (by decide) (by decide) (by decide) (Nat.le_of_ble_eq_true rfl) (Nat.le_of_ble_eq_true rfl) (c_ordered hM (by omega) (by omega)) (fun x s1 hq => ?_)
        obtain ⟨rfl, rfl⟩ := hq
        refine a_st dX12_findBest_29 rfl (by omega) (by decide) (fun s2 hs2 hf2 => ?_)
        refine n_inc dX12_findBest_30 rfl (n_i1 _) (by decide) rfl ?_
        refine r_goto (tgt := 13) dX12_findBest_33 (by decide) ?_
        refine ih (i + 1) s2 (m_R_fr hM hf2 (Or.inl (by omega))) (fun p hp => ?_) (fun k hk => by rw [hf2 225 (by omega)]; exact h225 k hk) (b_F_tr hF (b_F_fr hf2 (by omega))) (by omega) (by omega)
        rw [hs2]
        by_cases e : p = i
        · subst e; rw [pk_us]
        · rw [pk_un e]; exact how p (by omega)
  refine r_aload_n dX12_findBest_0 rfl rfl ?_
  refine s_getR dX12_findBest_1 fX12_9 lysX12 rfl ?_
  refine n_sip 179 dX12_findBest_4 (by decide) ?_
  refine r_iload_n dX12_findBest_7 rfl rfl ?_
  refine n_add dX12_findBest_8 ?_
  refine m_ld dX12_findBest_9 hM (by omega) ?_
  refine r_istore_n dX12_findBest_10 rfl (by decide) rfl ?_
  refine n_const 0 dX12_findBest_11 (by decide) ?_
  refine r_istore_n dX12_findBest_12 rfl (by decide) rfl ?_
  exact l1 (X (179 + m) + 1) 0 s hM (fun p hp => absurd hp (by omega)) h225 b_F_rf (by omega) (by omega)
/-- the first places of a row taken over -/
def t_K (X : x_T) (m : Nat) (l : List Nat) (i : Nat) : x_T := fun k => if 183 + 5 * m ≤ k ∧ k < 183 + 5 * m + i then x_so X m (x_gt l (k - (183 + 5 * m))) else X k
theorem t_K_0 {X : x_T} {m : Nat} {l : List Nat} : t_K X m l 0 = X := by
  funext k; unfold t_K; rw [if_neg (by omega)]
theorem t_K_o {X : x_T} {m k : Nat} {l : List Nat} {i : Nat} (h : k < 183 + 5 * m ∨ 183 + 5 * m + i ≤ k) : t_K X m l i k = X k := by unfold t_K; rw [if_neg (by omega)]
theorem t_K_s {X : x_T} {m : Nat} {l : List Nat} {i : Nat} : va_up (t_K X m l i) (183 + 5 * m + i) (x_so X m (x_gt l i)) = t_K X m l (i + 1) := by
  funext k
  by_cases e : k = 183 + 5 * m + i
  · subst e
    rw [va_up_s]
    unfold t_K
    rw [if_pos (by omega), show 183 + 5 * m + i - (183 + 5 * m) = i by omega]
  · rw [va_up_n e]
    unfold t_K
    by_cases e2 : 183 + 5 * m ≤ k ∧ k < 183 + 5 * m + i
    · rw [if_pos e2, if_pos (by omega)]
    · rw [if_neg e2, if_neg (by omega)]
set_option maxRecDepth 20000 in
set_option maxHeartbeats 1000000 in
theorem c_takeBest {G : q_G} {s : s_T} {X : x_T} {m : Nat} {l : List Nat} (hM : m_R X s) (hw : x_wf X) (hm : m < 4) (hl : x_vl (X (179 + m)) l) (hr : ∀ i, i < X (179 + m) → s 224 i = nI (x_so X m (x_gt l i))) : s_W G mX12_takeBest 2 0 0 (c_I (fun y9 s1 => y9 = nI (x_ct (fun p => decide (X (183 + 5 * m + p) ≠ x_so X m (x_gt l p))) (X (179 + m))) ∧ m_R (x_pt X m l) s1 ∧ s_fr 213 214 s s1)) 0 (q_ent mX12_takeBest [.ref 212, .int (nI m)]) [] s := by
  show s_W G mX12_takeBest 2 0 0 _ 0 [some (.ref 212), some (.int (nI m)), none, none] [] s
  have hs := x_sz hw
  have h5 := (x_mn hw hm).2
  have lp : ∀ f i u1, m_R (t_K X m l i) u1 → s_fr 213 214 s u1 → i ≤ X (179 + m) → X (179 + m) < i + f → s_W G mX12_takeBest 2 0 0 (c_I (fun y9 s1 => y9 = nI (x_ct (fun p => decide (X (183 + 5 * m + p) ≠ x_so X m (x_gt l p))) (X (179 + m))) ∧ m_R (x_pt X m l) s1 ∧ s_fr 213 214 s s1)) 4 [some (.ref 212), some (.int (nI m)), some (.int (nI (x_ct (fun p => decide (X (183 + 5 * m + p) ≠ x_so X m (x_gt l p))) i))), some (.int (nI i))] [] u1 := by
    intro f
    induction f with
    | zero =>
      intro i u1 hM hf hi hme
      exact absurd hme (by omega)
    | succ f ih =>
      intro i u1 hM hf hi hme
      refine r_iload_n dX12_takeBest_4 rfl rfl ?_
      refine r_aload_n dX12_takeBest_5 rfl rfl ?_
      refine s_getR dX12_takeBest_6 fX12_9 lysX12 rfl ?_
      refine n_sip 179 dX12_takeBest_9 (by decide) ?_
      refine r_iload_n dX12_takeBest_12 rfl rfl ?_
      refine n_add dX12_takeBest_13 ?_
      refine m_ld dX12_takeBest_14 hM (by omega) ?_
      rw [t_K_o (by omega)]
      refine n_cge (tgt := 59) dX12_takeBest_15 (by decide) (by omega) (by omega) (fun c15 => ?_) (fun c15 => ?_)
      · refine r_iload_n dX12_takeBest_59 rfl rfl ?_
        refine s_iret dX12_takeBest_60 rfl rfl ?_
        have e9 : i = X (179 + m) := by omega
        subst e9
        exact ⟨_, rfl, rfl, hM, hf⟩
      · have hod := x_od hw hm c15
        have hso := x_so_ok hw hm (hl.2.1 i c15)
        have hod1 := hod.1
        have hso1 := hso.1
        refine r_iload_n dX12_takeBest_18 rfl rfl ?_
        refine r_aload_n dX12_takeBest_19 rfl rfl ?_
        refine r_iload_n dX12_takeBest_20 rfl rfl ?_
        refine r_iload_n dX12_takeBest_21 rfl rfl ?_
        refine s_V2I mX12_ordered dX12_takeBest_22 okX12_ordered lX12_142 npX12_ordered lysX12 rfl (by decide) (by decide) (by decide) (Nat.le_of_ble_eq_true rfl) (Nat.le_of_ble_eq_true rfl) (c_ordered hM (by omega) (by omega)) (fun x s1 hq => ?_)
        obtain ⟨e9, rfl⟩ := hq
        replace e9 := e9.symm
        subst e9
        rw [t_K_o (by omega)]
        refine r_aload_n dX12_takeBest_25 rfl rfl ?_
        refine s_getR dX12_takeBest_26 fX12_49 lysX12 rfl ?_
        refine r_iload_n dX12_takeBest_29 rfl rfl ?_
        refine a_ld dX12_takeBest_30 rfl (by omega) (by decide) (show u1 224 i = nI (x_so X m (x_gt l i)) by rw [hf 224 (by omega)]; exact hr i c15) ?_
        refine n_ceq (tgt := 38) dX12_takeBest_31 (by decide) (by omega) (by omega) (fun c31 => ?_) (fun c31 => ?_)
        · refine n_const 0 dX12_takeBest_38 (by decide) ?_
          refine n_add dX12_takeBest_39 ?_
          refine r_istore_n dX12_takeBest_40 rfl (by decide) rfl ?_
          refine r_aload_n dX12_takeBest_41 rfl rfl ?_
          refine r_iload_n dX12_takeBest_42 rfl rfl ?_
          refine r_iload_n dX12_takeBest_43 rfl rfl ?_
          refine r_aload_n dX12_takeBest_44 rfl rfl ?_
          refine s_getR dX12_takeBest_45 fX12_49 lysX12 rfl ?_
          refine r_iload_n dX12_takeBest_48 rfl rfl ?_
          refine a_ld dX12_takeBest_49 rfl (by omega) (by decide) (show u1 224 i = nI (x_so X m (x_gt l i)) by rw [hf 224 (by omega)]; exact hr i c15) ?_
          refine s_V3V mX12_setOrdered dX12_takeBest_50 okX12_setOrdered lX12_114 npX12_setOrdered lysX12 rfl (by decide) (by decide) (by decide) (Nat.le_of_ble_eq_true rfl) (Nat.le_of_ble_eq_true rfl) (c_setOrdered hM (by omega) (by omega)) (fun s1 hq => ?_)
          obtain ⟨hM, hf3⟩ := hq
          rw [t_K_s] at hM
          refine n_inc dX12_takeBest_53 rfl (n_i1 _) (by decide) rfl ?_
          refine r_goto (tgt := 4) dX12_takeBest_56 (by decide) ?_
          have q9 := ih (i + 1) s1 hM (s_fr_tr hf hf3) (by omega) (by omega)
          first
            | (rw [x_ct_f (fun z => (of_decide_eq_true z) c31)] at q9; exact q9)
            | (rw [x_ct_t (decide_eq_true c31)] at q9; exact q9)
        · refine n_const 1 dX12_takeBest_34 (by decide) ?_
          refine r_goto (tgt := 39) dX12_takeBest_35 (by decide) ?_
          refine n_add dX12_takeBest_39 ?_
          refine r_istore_n dX12_takeBest_40 rfl (by decide) rfl ?_
          refine r_aload_n dX12_takeBest_41 rfl rfl ?_
          refine r_iload_n dX12_takeBest_42 rfl rfl ?_
          refine r_iload_n dX12_takeBest_43 rfl rfl ?_
          refine r_aload_n dX12_takeBest_44 rfl rfl ?_
          refine s_getR dX12_takeBest_45 fX12_49 lysX12 rfl ?_
          refine r_iload_n dX12_takeBest_48 rfl rfl ?_
          refine a_ld dX12_takeBest_49 rfl (by omega) (by decide) (show u1 224 i = nI (x_so X m (x_gt l i)) by rw [hf 224 (by omega)]; exact hr i c15) ?_
          refine s_V3V mX12_setOrdered dX12_takeBest_50 okX12_setOrdered lX12_114 npX12_setOrdered lysX12 rfl (by decide) (by decide) (by decide) (Nat.le_of_ble_eq_true rfl) (Nat.le_of_ble_eq_true rfl) (c_setOrdered hM (by omega) (by omega)) (fun s1 hq => ?_)
          obtain ⟨hM, hf3⟩ := hq
          rw [t_K_s] at hM
          refine n_inc dX12_takeBest_53 rfl (n_i1 _) (by decide) rfl ?_
          refine r_goto (tgt := 4) dX12_takeBest_56 (by decide) ?_
          have q9 := ih (i + 1) s1 hM (s_fr_tr hf hf3) (by omega) (by omega)
          first
            | (rw [x_ct_f (fun z => (of_decide_eq_true z) c31)] at q9; exact q9)
            | (rw [x_ct_t (decide_eq_true c31)] at q9; exact q9)
  refine n_const 0 dX12_takeBest_0 (by decide) ?_
  refine r_istore_n dX12_takeBest_1 rfl (by decide) rfl ?_
  refine n_const 0 dX12_takeBest_2 (by decide) ?_
  refine r_istore_n dX12_takeBest_3 rfl (by decide) rfl ?_
  exact lp (X (179 + m) + 1) 0 s (by rw [t_K_0]; exact hM) s_fr_rf (by omega) (by omega)
theorem m_O_of {z : z_T} {s s1 : s_T} (h : m_O z s) (hf : b_F s s1) (h225 : ∀ k, k < 20 → s1 225 k = bI false) : m_O z s1 := by
  obtain ⟨a1, a2, a3, a4, a5, a6, a7, a8, a9, a10, ⟨hu, a11, a12⟩, a13⟩ := h
  have e : ∀ k, 214 ≤ k → k ≤ 217 → s1 k = s k := fun k h1 h2 => hf.2 k (by omega) (by omega) (by omega) (by omega) (by omega) (by omega) (by omega)
  unfold m_O
  rw [e 214 (by omega) (by omega), e 215 (by omega) (by omega), e 216 (by omega) (by omega), e 217 (by omega) (by omega), hf.1 2 (by omega), hf.1 5 (by omega), hf.1 7 (by omega), hf.1 9 (by omega), hf.1 10 (by omega)]
  exact ⟨a1, a2, a3, a4, a5, a6, a7, a8, a9, m_op_b a10 hf, ⟨hu, a11, m_H_b a12 hf⟩, h225⟩
theorem b_F_s {s s1 : s_T} (h : b_F s s1) : s_fr 212 234 s s1 := fun k hk => h.2 k (by omega) (by omega) (by omega) (by omega) (by omega) (by omega) (by omega)
set_option maxRecDepth 20000 in
set_option maxHeartbeats 1000000 in
theorem m_best {G : q_G} {s : s_T} {z : z_T} (hz : z_wf z) (hM : m_R (z 0) s) (hO : m_O z s) {m : Int32} : s_W G mX12_best 14 0 0 (m_P (A_best z m) s) 0 (q_ent mX12_best [.ref 212, .int m]) [] s := by
  show s_W G mX12_best 14 0 0 _ 0 [some (.ref 212), some (.int m)] [] s
  have hw := hz.1.1
  have hs := x_sz hw
  have hf : s_fr 212 234 s s := s_fr_rf
  refine r_aload_n dX12_best_0 rfl rfl ?_
  refine r_iload_n dX12_best_1 rfl rfl ?_
  refine s_S1I mX12_isMachine dX12_best_2 okX12_isMachine lX12_122 npX12_isMachine (by decide) (by decide) (by decide) (Nat.le_of_ble_eq_true rfl) (Nat.le_of_ble_eq_true rfl) c_mIsMachine (fun x s1 hq => ?_)
  obtain ⟨rfl, rfl⟩ := hq
  refine b_ifeq (tgt := 12) dX12_best_5 (by decide) (fun c5 => ?_) (fun c5 => ?_)
  · refine n_const 1 dX12_best_12 (by decide) ?_
    refine a_put dX12_best_13 gX12_79 lysX12 rfl rfl rfl (fun s1 hs1 hf1 => ?_)
    have h3 := (congrFun hs1 3).trans pk_us
    have hM := m_R_fr hM hf1 (Or.inr (by omega))
    have hO := m_O_eq hO (m_eq_put hs1 hf1 (by decide))
    have hf := s_fr_tr hf (s_fr_w (lo' := 212) (hi' := 234) hf1 (by omega) (by omega))
    refine r_aload_n dX12_best_16 rfl rfl ?_
    refine s_getI dX12_best_17 fX12_79 lysX12 rfl h3 ?_
    refine n_ifle (tgt := 25) dX12_best_20 (by decide) (by omega) (fun c20 => ?_) (fun c20 => ?_)
    · exact absurd c20 (by decide)
    · refine n_const 0 dX12_best_23 (by decide) ?_
      refine s_iret dX12_best_24 rfl rfl ?_
      first
        | exact m_P_e (by unfold A_best; simp [*]) (by decide) h3 hM hO hf
        | exact m_P_s (by unfold A_best; simp only [*]; rfl) h3 hM hO hf
        | exact m_P_x (by unfold A_best; simp [*]) h3 hM hO hf
  · obtain ⟨m, rfl, hm, hm2⟩ := iLt_n c5
    have em := iN_n hm2
    refine n_const 0 dX12_best_8 (by decide) ?_
    refine r_goto (tgt := 13) dX12_best_9 (by decide) ?_
    refine a_put dX12_best_13 gX12_79 lysX12 rfl rfl rfl (fun s1 hs1 hf1 => ?_)
    have h3 := (congrFun hs1 3).trans pk_us
    have hM := m_R_fr hM hf1 (Or.inr (by omega))
    have hO := m_O_eq hO (m_eq_put hs1 hf1 (by decide))
    have hf := s_fr_tr hf (s_fr_w (lo' := 212) (hi' := 234) hf1 (by omega) (by omega))
    refine r_aload_n dX12_best_16 rfl rfl ?_
    refine s_getI dX12_best_17 fX12_79 lysX12 rfl h3 ?_
    refine n_ifle (tgt := 25) dX12_best_20 (by decide) (by omega) (fun c20 => ?_) (fun c20 => ?_)
    · obtain ⟨hu, hu9, hH9⟩ := hO.2.2.2.2.2.2.2.2.2.2.1
      have hbo := x_b_ok (op := n0) hw hm rfl (x_gd_op (z_gd hz) m)
      refine r_aload_n dX12_best_25 rfl rfl ?_
      refine r_iload_n dX12_best_26 rfl rfl ?_
      refine s_V1V mX12_findBest dX12_best_27 okX12_findBest lX12_252 npX12_findBest lysX12 rfl (by decide) (by decide) (by decide) (Nat.le_of_ble_eq_true rfl) (Nat.le_of_ble_eq_true rfl) (c_findBest hM hO.2.2.2.2.2.2.2.2.2.1 hH9 hu9 hO.2.2.2.2.2.2.2.2.2.2.2 hw hm) (fun s1 hq => ?_)
      obtain ⟨hM, g1, g2, g3, hF⟩ := hq
      rw [hbo.1] at g1
      replace g2 := g2 _ hbo.1
      replace hO := m_O_of hO hF g3
      replace h3 := (hF.1 3 (by omega)).trans h3
      replace hf := s_fr_tr hf (b_F_s hF)
      refine r_aload_n dX12_best_30 rfl rfl ?_
      refine s_getI dX12_best_31 fX12_246 lysX12 rfl g1 ?_
      refine s_iret dX12_best_34 rfl rfl ?_
      first
        | exact m_P_e (by unfold A_best; simp [*]) (by decide) h3 hM hO hf
        | exact m_P_s (by unfold A_best; simp only [*]; rfl) h3 hM hO hf
        | exact m_P_x (by unfold A_best; simp [*]) h3 hM hO hf
    · exact absurd c20 (by decide)
set_option maxRecDepth 20000 in
set_option maxHeartbeats 1000000 in
theorem m_reoptimize {G : q_G} {s : s_T} {z : z_T} (hz : z_wf z) (hM : m_R (z 0) s) (hO : m_O z s) {m : Int32} : s_W G mX12_reoptimize 14 0 0 (m_P (A_reoptimize z m) s) 0 (q_ent mX12_reoptimize [.ref 212, .int m]) [] s := by
  show s_W G mX12_reoptimize 14 0 0 _ 0 [some (.ref 212), some (.int m)] [] s
  have hw := hz.1.1
  have hs := x_sz hw
  have hf : s_fr 212 234 s s := s_fr_rf
  refine r_aload_n dX12_reoptimize_0 rfl rfl ?_
  refine r_iload_n dX12_reoptimize_1 rfl rfl ?_
  refine s_S1I mX12_isMachine dX12_reoptimize_2 okX12_isMachine lX12_122 npX12_isMachine (by decide) (by decide) (by decide) (Nat.le_of_ble_eq_true rfl) (Nat.le_of_ble_eq_true rfl) c_mIsMachine (fun x s1 hq => ?_)
  obtain ⟨rfl, rfl⟩ := hq
  refine b_ifeq (tgt := 12) dX12_reoptimize_5 (by decide) (fun c5 => ?_) (fun c5 => ?_)
  · refine n_const 1 dX12_reoptimize_12 (by decide) ?_
    refine a_put dX12_reoptimize_13 gX12_79 lysX12 rfl rfl rfl (fun s1 hs1 hf1 => ?_)
    have h3 := (congrFun hs1 3).trans pk_us
    have hM := m_R_fr hM hf1 (Or.inr (by omega))
    have hO := m_O_eq hO (m_eq_put hs1 hf1 (by decide))
    have hf := s_fr_tr hf (s_fr_w (lo' := 212) (hi' := 234) hf1 (by omega) (by omega))
    refine r_aload_n dX12_reoptimize_16 rfl rfl ?_
    refine s_getI dX12_reoptimize_17 fX12_79 lysX12 rfl h3 ?_
    refine n_ifle (tgt := 25) dX12_reoptimize_20 (by decide) (by omega) (fun c20 => ?_) (fun c20 => ?_)
    · exact absurd c20 (by decide)
    · refine n_const 0 dX12_reoptimize_23 (by decide) ?_
      refine s_iret dX12_reoptimize_24 rfl rfl ?_
      first
        | exact m_P_x (by unfold A_reoptimize; rw [if_pos (by assumption), em]; rfl) h3 hM hO hf
        | exact m_P_e (by unfold A_reoptimize; simp [*]) (by decide) h3 hM hO hf
        | exact m_P_s (by unfold A_reoptimize; simp [*]) h3 hM hO hf
        | exact m_P_x (by unfold A_reoptimize; simp [*]) h3 hM hO hf
  · obtain ⟨m, rfl, hm, hm2⟩ := iLt_n c5
    have em := iN_n hm2
    refine n_const 0 dX12_reoptimize_8 (by decide) ?_
    refine r_goto (tgt := 13) dX12_reoptimize_9 (by decide) ?_
    refine a_put dX12_reoptimize_13 gX12_79 lysX12 rfl rfl rfl (fun s1 hs1 hf1 => ?_)
    have h3 := (congrFun hs1 3).trans pk_us
    have hM := m_R_fr hM hf1 (Or.inr (by omega))
    have hO := m_O_eq hO (m_eq_put hs1 hf1 (by decide))
    have hf := s_fr_tr hf (s_fr_w (lo' := 212) (hi' := 234) hf1 (by omega) (by omega))
    refine r_aload_n dX12_reoptimize_16 rfl rfl ?_
    refine s_getI dX12_reoptimize_17 fX12_79 lysX12 rfl h3 ?_
    refine n_ifle (tgt := 25) dX12_reoptimize_20 (by decide) (by omega) (fun c20 => ?_) (fun c20 => ?_)
    · obtain ⟨hu, hu9, hH9⟩ := hO.2.2.2.2.2.2.2.2.2.2.1
      have hbo := x_b_ok (op := n0) hw hm rfl (x_gd_op (z_gd hz) m)
      refine r_aload_n dX12_reoptimize_25 rfl rfl ?_
      refine r_iload_n dX12_reoptimize_26 rfl rfl ?_
      refine s_V1V mX12_findBest dX12_reoptimize_27 okX12_findBest lX12_252 npX12_findBest lysX12 rfl (by decide) (by decide) (by decide) (Nat.le_of_ble_eq_true rfl) (Nat.le_of_ble_eq_true rfl) (c_findBest hM hO.2.2.2.2.2.2.2.2.2.1 hH9 hu9 hO.2.2.2.2.2.2.2.2.2.2.2 hw hm) (fun s1 hq => ?_)
      obtain ⟨hM, g1, g2, g3, hF⟩ := hq
      rw [hbo.1] at g1
      replace g2 := g2 _ hbo.1
      replace hO := m_O_of hO hF g3
      replace h3 := (hF.1 3 (by omega)).trans h3
      replace hf := s_fr_tr hf (b_F_s hF)
      refine r_aload_n dX12_reoptimize_30 rfl rfl ?_
      refine r_iload_n dX12_reoptimize_31 rfl rfl ?_
      refine s_V1I mX12_takeBest dX12_reoptimize_32 okX12_takeBest lX12_255 npX12_takeBest lysX12 rfl (by decide) (by decide) (by decide) (Nat.le_of_ble_eq_true rfl) (Nat.le_of_ble_eq_true rfl) (c_takeBest hM hw hm hbo.2.1 g2) (fun x s1 hq => ?_)
      obtain ⟨rfl, hM, hf1⟩ := hq
      replace hO := m_O_eq hO (m_eq_fr hf1 (by omega))
      replace h3 := (congrFun (hf1 212 (by omega)) 3).trans h3
      replace hf := s_fr_tr hf (s_fr_w hf1 (by omega) (by omega))
      refine s_iret dX12_reoptimize_35 rfl rfl ?_
      first
        | exact m_P_x (by unfold A_reoptimize; rw [if_pos (by assumption), em]; rfl) h3 hM hO hf
        | exact m_P_e (by unfold A_reoptimize; simp [*]) (by decide) h3 hM hO hf
        | exact m_P_s (by unfold A_reoptimize; simp [*]) h3 hM hO hf
        | exact m_P_x (by unfold A_reoptimize; simp [*]) h3 hM hO hf
    · exact absurd c20 (by decide)
end
