/-! ===== swap of the reference ===== -/
theorem c_in4 {G : q_G} {s : s_T} {x : Int32} {b : Nat} (hb : b < 2 ^ 31) : s_W G mX12_in 2 0 0 (c_I (fun y9 s1 => s1 = s ∧ y9 = bI (iLt x (b - 1)))) 0 (q_ent mX12_in [.long x.toInt64, .long (nI 0).toInt64, .long (nI b - nI 2).toInt64]) [] s := by
  have h := c_inI (G := G) (s := s) (x := x) (a := nI 0) (b := nI b - nI 2)
  rw [nI_sub hb (by decide), nI_toInt (by decide)] at h
  have e : decide (((0 : Nat) : Int) ≤ x.toInt ∧ x.toInt ≤ (b : Int) - ((2 : Nat) : Int)) = iLt x (b - 1) := decide_eq_decide.mpr (by omega)
  rw [e] at h
  exact h
theorem c_greatestEnd0 {G : q_G} {s : s_T} {X : x_T} (hM : m_R X s) (hg : x_gd X) (ht : m_t0 X s) : s_W G mX12_greatestEnd 2 0 0 (c_I (fun y9 s1 => s1 = s ∧ y9 = nI (x_s0 X))) 0 (q_ent mX12_greatestEnd [.ref 212]) [] s :=
  c_greatestEnd (K := fun _ => true) (r := x_r0 X) (t := x_t0 X) hM hg.1 (fun k hk => ⟨fun _ => ht k hk, fun q => by cases q⟩) (fun _ _ => rfl) (fun k hk => by have := x_t0_bd hg hk; omega)
section V5
variable {G : q_G} {M : q_M} {d C S : Nat} {P : q_R → s_T → Prop} {pc : Nat} {L : List (Option Value)} {st : List Value} {s : s_T}
theorem s_V5V (M' : q_M) {d' C' S' : Nat} {Q : s_T → Prop} {v1 v2 v3 v4 v5 : Value} {k ci idx N : Nat} {T : u_T} {fr : List (Option Nat)} (dc : decode M.2.2.1 pc = .ok (.invokevirtual idx, 3)) (hMo : q_Mok M') (hlk : q_lV M.1 idx M') (hnp : q_np M' 5) (hl : q_lay k = .inr (ci, fr)) (hci : vwCl[ci]? = some (M'.1, T, N)) (hd : d' + 1 ≤ d) (hC : C' ≤ C) (hS2 : S' ≤ S) (hr : (st.map fun v => v.category).sum ≤ 8) (hA : (q_sl (.ref k :: [v1, v2, v3, v4, v5])).length ≤ M'.2.2.2.1) (K1 : s_W G M' d' C' S' (c_V Q) 0 (q_ent M' (.ref k :: [v1, v2, v3, v4, v5])) [] s) (K2 : ∀ (s' : s_T), Q s' → s_W G M d (C - C') (S - S') P (pc + 3) L st s') : s_W G M d C S P pc L (v5 :: v4 :: v3 :: v2 :: v1 :: .ref k :: st) s := s_callV M' [v1, v2, v3, v4, v5] dc hMo hlk hnp hl hci hd hC hS2 hr hA rfl K1 (fun v s' hp => by obtain ⟨e, hp⟩ := hp; cases e; exact K2 s' hp) (fun E s' hp => by obtain ⟨e, -⟩ := hp; cases e)
end V5
set_option maxRecDepth 20000 in
set_option maxHeartbeats 1000000 in
theorem c_mExchange {G : q_G} {s : s_T} {X : x_T} {m p : Nat} (hM : m_R X s) (hm : m < 4) (hp : p + 1 < 5) : s_W G mX12_exchange 2 0 0 (c_V (fun s1 => m_R (x_sw X m p) s1 ∧ s_fr 213 214 s s1)) 0 (q_ent mX12_exchange [.ref 212, .int (nI m), .int (nI p)]) [] s := by
  show s_W G mX12_exchange 2 0 0 _ 0 [some (.ref 212), some (.int (nI m)), some (.int (nI p)), none] [] s
  have hf : s_fr 213 214 s s := s_fr_rf
  refine r_aload_n dX12_exchange_0 rfl rfl ?_
  refine r_iload_n dX12_exchange_1 rfl rfl ?_
  refine r_iload_n dX12_exchange_2 rfl rfl ?_
  refine s_V2I mX12_ordered dX12_exchange_3 okX12_ordered lX12_142 npX12_ordered lysX12 rfl (by decide) (by decide) (by decide) (Nat.le_of_ble_eq_true rfl) (Nat.le_of_ble_eq_true rfl) (c_ordered hM (by omega) (by omega)) (fun x s1 hq => ?_)
  obtain ⟨rfl, rfl⟩ := hq
  refine r_istore_n dX12_exchange_6 rfl (by decide) rfl ?_
  refine r_aload_n dX12_exchange_7 rfl rfl ?_
  refine r_iload_n dX12_exchange_8 rfl rfl ?_
  refine r_iload_n dX12_exchange_9 rfl rfl ?_
  refine r_aload_n dX12_exchange_10 rfl rfl ?_
  refine r_iload_n dX12_exchange_11 rfl rfl ?_
  refine r_iload_n dX12_exchange_12 rfl rfl ?_
  refine n_const 1 dX12_exchange_13 (by decide) ?_
  refine n_add dX12_exchange_14 ?_
  refine s_V2I mX12_ordered dX12_exchange_15 okX12_ordered lX12_142 npX12_ordered lysX12 rfl (by decide) (by decide) (by decide) (Nat.le_of_ble_eq_true rfl) (Nat.le_of_ble_eq_true rfl) (c_ordered hM (by omega) (by omega)) (fun x s1 hq => ?_)
  obtain ⟨rfl, rfl⟩ := hq
  refine s_V3V mX12_setOrdered dX12_exchange_18 okX12_setOrdered lX12_114 npX12_setOrdered lysX12 rfl (by decide) (by decide) (by decide) (Nat.le_of_ble_eq_true rfl) (Nat.le_of_ble_eq_true rfl) (c_setOrdered hM (by omega) (by omega)) (fun s1 hq => ?_)
  obtain ⟨hM, hf1⟩ := hq
  replace hf := s_fr_tr hf hf1
  refine r_aload_n dX12_exchange_21 rfl rfl ?_
  refine r_iload_n dX12_exchange_22 rfl rfl ?_
  refine r_iload_n dX12_exchange_23 rfl rfl ?_
  refine n_const 1 dX12_exchange_24 (by decide) ?_
  refine n_add dX12_exchange_25 ?_
  refine r_iload_n dX12_exchange_26 rfl rfl ?_
  refine s_V3V mX12_setOrdered dX12_exchange_27 okX12_setOrdered lX12_114 npX12_setOrdered lysX12 rfl (by decide) (by decide) (by decide) (Nat.le_of_ble_eq_true rfl) (Nat.le_of_ble_eq_true rfl) (c_setOrdered hM (by omega) (by omega)) (fun s1 hq => ?_)
  obtain ⟨hM, hf1⟩ := hq
  replace hf := s_fr_tr hf hf1
  refine s_vret dX12_exchange_30 rfl ?_
  exact ⟨rfl, hM, hf⟩
set_option maxRecDepth 20000 in
set_option maxHeartbeats 1000000 in
theorem c_fail {G : q_G} {s : s_T} {a b c d e : Int32} : s_W G mX12_fail 1 0 0 (c_V (fun s1 => s1 212 = upd (s 212) 7 a ∧ (s1 216 0 = b ∧ s1 216 1 = c ∧ s1 216 2 = d ∧ s1 216 3 = e) ∧ ∀ k, k ≠ 212 → k ≠ 216 → s1 k = s k)) 0 (q_ent mX12_fail [.ref 212, .int a, .int b, .int c, .int d, .int e]) [] s := by
  show s_W G mX12_fail 1 0 0 _ 0 [some (.ref 212), some (.int a), some (.int b), some (.int c), some (.int d), some (.int e)] [] s
  refine r_aload_n dX12_fail_0 rfl rfl ?_
  refine r_iload_n dX12_fail_1 rfl rfl ?_
  refine a_put dX12_fail_2 gX12_214 lysX12 rfl rfl rfl (fun s1 hs1 hf1 => ?_)
  refine r_aload_n dX12_fail_5 rfl rfl ?_
  refine s_getR dX12_fail_6 fX12_20 lysX12 rfl ?_
  refine n_const 0 dX12_fail_9 (by decide) ?_
  refine r_iload_n dX12_fail_10 rfl rfl ?_
  refine a_st dX12_fail_11 rfl (by omega) (by decide) (fun s2 hs2 hf2 => ?_)
  refine r_aload_n dX12_fail_12 rfl rfl ?_
  refine s_getR dX12_fail_13 fX12_20 lysX12 rfl ?_
  refine n_const 1 dX12_fail_16 (by decide) ?_
  refine r_iload_n dX12_fail_17 rfl rfl ?_
  refine a_st dX12_fail_18 rfl (by omega) (by decide) (fun s3 hs3 hf3 => ?_)
  refine r_aload_n dX12_fail_19 rfl rfl ?_
  refine s_getR dX12_fail_20 fX12_20 lysX12 rfl ?_
  refine n_const 2 dX12_fail_23 (by decide) ?_
  refine r_iload dX12_fail_24 rfl ?_
  refine a_st dX12_fail_26 rfl (by omega) (by decide) (fun s4 hs4 hf4 => ?_)
  refine r_aload_n dX12_fail_27 rfl rfl ?_
  refine s_getR dX12_fail_28 fX12_20 lysX12 rfl ?_
  refine n_const 3 dX12_fail_31 (by decide) ?_
  refine r_iload dX12_fail_32 rfl ?_
  refine a_st dX12_fail_34 rfl (by omega) (by decide) (fun s5 hs5 hf5 => ?_)
  refine s_vret dX12_fail_35 rfl ?_
  refine ⟨rfl, ?_, ⟨?_, ?_, ?_, ?_⟩, fun k h1 h2 => ?_⟩
  · rw [hf5 212 (by omega), hf4 212 (by omega), hf3 212 (by omega), hf2 212 (by omega), hs1]
  · rw [hs5, pk_un (by decide), hs4, pk_un (by decide), hs3, pk_un (by decide), hs2, pk_us]
  · rw [hs5, pk_un (by decide), hs4, pk_un (by decide), hs3, pk_us]
  · rw [hs5, pk_un (by decide), hs4, pk_us]
  · rw [hs5, pk_us]
  · rw [hf5 k (by omega), hf4 k (by omega), hf3 k (by omega), hf2 k (by omega), hf1 k (by omega)]
set_option maxRecDepth 20000 in
set_option maxHeartbeats 1000000 in
theorem c_failsByCycle {G : q_G} {s : s_T} {X : x_T} (hM : m_R X s) (hop : m_op n0 s) (hH : ∃ hu, hu ≤ 50000 ∧ m_H none hu s) (hw : x_wf X) : s_W G mX12_failsByCycle 7 0 0 (c_I (fun y9 s1 => y9 = bI (! x_acb X) ∧ (x_acb X = true → m_t0 X s1 ∧ s_fr 218 220 s s1) ∧ (x_acb X = false → (s1 216 0 = nI 1 ∧ s1 216 1 = nI (100 + x_fu (x_kk X) (X 1) 0) ∧ s1 216 2 = nI (X 1 - x_ct (x_kk X) (X 1)) ∧ s1 212 7 = nI 3) ∧ (∀ j, j ≠ 7 → s1 212 j = s 212 j) ∧ ∀ k, k ≠ 212 → k ≠ 216 → k ≠ 218 → k ≠ 219 → s1 k = s k))) 0 (q_ent mX12_failsByCycle [.ref 212]) [] s := by
  show s_W G mX12_failsByCycle 7 0 0 _ 0 [some (.ref 212), none, none] [] s
  have hs := x_sz hw
  obtain ⟨hu9, hu9a, hH9⟩ := hH
  refine r_aload_n dX12_failsByCycle_0 rfl rfl ?_
  refine s_V0I mX12_findTimes dX12_failsByCycle_1 okX12_findTimes lX12_181 npX12_findTimes lysX12 rfl (by decide) (by decide) (by decide) (Nat.le_of_ble_eq_true rfl) (Nat.le_of_ble_eq_true rfl) (c_findTimes (hu := hu9) hM hop hH9 hw hu9a (fun q e => by cases e)) (fun x s1 hq => ?_)
  obtain ⟨K, r, t, rk, rfl, M, hT, T, hrk, hf1⟩ := hq
  have hcl := x_ct_le (K := K) (X 1)
  refine r_istore_n dX12_failsByCycle_4 rfl (by decide) rfl ?_
  refine r_iload_n dX12_failsByCycle_5 rfl rfl ?_
  refine n_ifne (tgt := 11) dX12_failsByCycle_6 (by decide) (by omega) (fun c6 => ?_) (fun c6 => ?_)
  · have hb : x_acb X = false := by
      cases e : x_acb X with
      | false => rfl
      | true => have := x_ct_full _ (x_all0 ⟨hw, x_acb_t e⟩ T M); omega
    obtain ⟨k0, k1, k2, k3, k4, k5⟩ := x_acb_f hw hb T M
    refine n_const 0 dX12_failsByCycle_11 (by decide) ?_
    refine r_istore_n dX12_failsByCycle_12 rfl (by decide) rfl ?_
    have lp : ∀ f k, k ≤ k0 → k0 < k + f → s_W G mX12_failsByCycle 7 0 0 (c_I (fun y9 s1 => y9 = bI (! x_acb X) ∧ (x_acb X = true → m_t0 X s1 ∧ s_fr 218 220 s s1) ∧ (x_acb X = false → (s1 216 0 = nI 1 ∧ s1 216 1 = nI (100 + x_fu (x_kk X) (X 1) 0) ∧ s1 216 2 = nI (X 1 - x_ct (x_kk X) (X 1)) ∧ s1 212 7 = nI 3) ∧ (∀ j, j ≠ 7 → s1 212 j = s 212 j) ∧ ∀ k, k ≠ 212 → k ≠ 216 → k ≠ 218 → k ≠ 219 → s1 k = s k))) 13 [some (.ref 212), some (.int (nI (X 1 - x_ct K (X 1)))), some (.int (nI k))] [] s1 := by
      intro f
      induction f with
      | zero =>
        intro k hk hme
        exact absurd hme (by omega)
      | succ f ih =>
        intro k hk hme
        refine r_aload_n dX12_failsByCycle_13 rfl rfl ?_
        refine s_getR dX12_failsByCycle_14 fX12_29 lysX12 rfl ?_
        refine r_iload_n dX12_failsByCycle_17 rfl rfl ?_
        refine a_ld dX12_failsByCycle_18 rfl (by omega) (by decide) rfl ?_
        refine r_if_lt (tgt := 28) dX12_failsByCycle_19 (by decide) (fun c19 => ?_) (fun c19 => ?_)
        · have e : k = k0 := by
            by_cases e : k = k0
            · exact e
            · have q1 := k3 k (by omega)
              have q2 := ((hT k (by omega)).1 q1).1
              have q3 := x_TT_bd hw T (rk k + 1) k (by omega) (by omega) q1
              have q4 := hrk k (by omega) q1
              have q5 := x_ct_le (K := K) (X 1)
              rw [q2, Int32.lt_iff_toInt_lt, nI_toInt (by omega), i_0] at c19
              omega
          subst e
          refine r_aload_n dX12_failsByCycle_28 rfl rfl ?_
          refine n_const 3 dX12_failsByCycle_29 (by decide) ?_
          refine n_const 1 dX12_failsByCycle_30 (by decide) ?_
          refine n_bip 100 dX12_failsByCycle_31 (by decide) ?_
          refine r_iload_n dX12_failsByCycle_33 rfl rfl ?_
          refine n_add dX12_failsByCycle_34 ?_
          refine r_iload_n dX12_failsByCycle_35 rfl rfl ?_
          refine n_const 0 dX12_failsByCycle_36 (by decide) ?_
          refine s_V5V mX12_fail dX12_failsByCycle_37 okX12_fail lX12_217 npX12_fail lysX12 rfl (by decide) (by decide) (by decide) (Nat.le_of_ble_eq_true rfl) (Nat.le_of_ble_eq_true rfl) c_fail (fun s1 hq => ?_)
          obtain ⟨w1, ⟨w2, w3, w4, -⟩, w5⟩ := hq
          refine n_const 1 dX12_failsByCycle_40 (by decide) ?_
          refine s_iret dX12_failsByCycle_41 rfl rfl ?_
          refine ⟨_, rfl, ?_, fun q => ?_, fun _ => ⟨⟨w2, ?_, ?_, ?_⟩, fun j hj => ?_, fun k h1 h2 h3 h4 => ?_⟩⟩
          · rw [hb]; rfl
          · rw [hb] at q; cases q
          · rw [w3, ← k4]
          · rw [w4, ← k5]
          · rw [w1, pk_us]
          · rw [w1, pk_un hj, hf1 212 (by omega)]
          · rw [w5 k h1 h2, hf1 k (by omega)]
        · refine n_inc dX12_failsByCycle_22 rfl (n_i1 _) (by decide) rfl ?_
          refine r_goto (tgt := 13) dX12_failsByCycle_25 (by decide) ?_
          refine ih (k + 1) ?_ (by omega)
          by_cases e : k = k0
          · subst e
            rw [(hT k k1).2 k2] at c19
            exact absurd (by decide) c19
          · omega
    exact lp (k0 + 1) 0 (by omega) (by omega)
  · have hA : ∀ k, k < X 1 → K k = true := x_ct_all _ (by omega)
    have hac : x_ac X n0 := ⟨rk, x_TT_rk T hA⟩
    refine n_const 0 dX12_failsByCycle_9 (by decide) ?_
    refine s_iret dX12_failsByCycle_10 rfl rfl ?_
    refine ⟨_, rfl, ?_, fun _ => ⟨m_T_t0 ⟨hw, hac⟩ hT T M, hf1⟩, fun q => ?_⟩
    · rw [x_acb_i hw hac]; rfl
    · rw [x_acb_i hw hac] at q; cases q
set_option maxRecDepth 20000 in
set_option maxHeartbeats 1000000 in
theorem m_swap {G : q_G} {s : s_T} {z : z_T} (hz : z_wf z) (hM : m_R (z 0) s) (hO : m_O z s) {m p : Int32} : s_W G mX12_swap 9 0 0 (m_P (A_swap z m p) s) 0 (q_ent mX12_swap [.ref 212, .int m, .int p]) [] s := by
  show s_W G mX12_swap 9 0 0 _ 0 [some (.ref 212), some (.int m), some (.int p)] [] s
  have hw := hz.1.1
  have hs := x_sz hw
  have hf : s_fr 212 234 s s := s_fr_rf
  refine r_aload_n dX12_swap_0 rfl rfl ?_
  refine r_iload_n dX12_swap_1 rfl rfl ?_
  refine s_S1I mX12_isMachine dX12_swap_2 okX12_isMachine lX12_122 npX12_isMachine (by decide) (by decide) (by decide) (Nat.le_of_ble_eq_true rfl) (Nat.le_of_ble_eq_true rfl) c_mIsMachine (fun x s1 hq => ?_)
  obtain ⟨rfl, rfl⟩ := hq
  refine b_ifne (tgt := 12) dX12_swap_5 (by decide) (fun c5 => ?_) (fun c5 => ?_)
  · obtain ⟨m, rfl, hm, hm2⟩ := iLt_n c5
    have em := iN_n hm2
    have hmn := x_mn hw hm
    refine r_iload_n dX12_swap_12 rfl rfl ?_
    refine r_i2l dX12_swap_13 rfl ?_
    refine r_lconst (v := (nI 0).toInt64) dX12_swap_14 (by decide) ?_
    refine r_aload_n dX12_swap_15 rfl rfl ?_
    refine s_getR dX12_swap_16 fX12_9 lysX12 rfl ?_
    refine n_sip 179 dX12_swap_19 (by decide) ?_
    refine r_iload_n dX12_swap_22 rfl rfl ?_
    refine n_add dX12_swap_23 ?_
    refine m_ld dX12_swap_24 hM (by omega) ?_
    try simp (disch := omega) only [va_up_n, va_up_s]
    refine n_const 2 dX12_swap_25 (by decide) ?_
    refine r_isub dX12_swap_26 ?_
    refine r_i2l dX12_swap_27 rfl ?_
    refine s_S3I mX12_in dX12_swap_28 okX12_in lX12_82 npX12_in (by decide) (by decide) (by decide) (Nat.le_of_ble_eq_true rfl) (Nat.le_of_ble_eq_true rfl) (c_in4 (by omega)) (fun x s1 hq => ?_)
    obtain ⟨rfl, rfl⟩ := hq
    refine b_ifne (tgt := 38) dX12_swap_31 (by decide) (fun c31 => ?_) (fun c31 => ?_)
    · obtain ⟨p, rfl, hp, hp2⟩ := iLt_n c31
      have ep := iN_n hp2
      have hp9 : p + 1 < z 0 (179 + m) := by omega
      refine n_const 0 dX12_swap_38 (by decide) ?_
      refine a_put dX12_swap_39 gX12_79 lysX12 rfl rfl rfl (fun s1 hs1 hf1 => ?_)
      have h3 := (congrFun hs1 3).trans pk_us
      have hM := m_R_fr hM hf1 (Or.inr (by omega))
      have hO := m_O_eq hO (m_eq_put hs1 hf1 (by decide))
      have hf := s_fr_tr hf (s_fr_w (lo' := 212) (hi' := 234) hf1 (by omega) (by omega))
      refine r_aload_n dX12_swap_42 rfl rfl ?_
      refine s_getI dX12_swap_43 fX12_79 lysX12 rfl h3 ?_
      refine n_ifle (tgt := 51) dX12_swap_46 (by decide) (by omega) (fun c46 => ?_) (fun c46 => ?_)
      · refine r_aload_n dX12_swap_51 rfl rfl ?_
        refine r_iload_n dX12_swap_52 rfl rfl ?_
        refine r_iload_n dX12_swap_53 rfl rfl ?_
        refine s_V2V mX12_exchange dX12_swap_54 okX12_exchange lX12_221 npX12_exchange lysX12 rfl (by decide) (by decide) (by decide) (Nat.le_of_ble_eq_true rfl) (Nat.le_of_ble_eq_true rfl) (c_mExchange hM hm (by omega)) (fun s1 hq => ?_)
        obtain ⟨hM2, hf1⟩ := hq
        have hw2 := x_pr_wf hw hm (x_sw_pr hw hm hp9)
        replace hO := m_O_eq hO (m_eq_fr hf1 (by omega))
        replace h3 := (congrFun (hf1 212 (by omega)) 3).trans h3
        replace hf := s_fr_tr hf (s_fr_w hf1 (by omega) (by omega))
        refine r_aload_n dX12_swap_57 rfl rfl ?_
        refine s_V0I mX12_failsByCycle dX12_swap_58 okX12_failsByCycle lX12_225 npX12_failsByCycle lysX12 rfl (by decide) (by decide) (by decide) (Nat.le_of_ble_eq_true rfl) (Nat.le_of_ble_eq_true rfl) (c_failsByCycle hM2 hO.2.2.2.2.2.2.2.2.2.1 hO.2.2.2.2.2.2.2.2.2.2.1 hw2) (fun x s1 hq => ?_)
        obtain ⟨rfl, hq1, hq2⟩ := hq
        refine b_ifeq (tgt := 77) dX12_swap_61 (by decide) (fun c61 => ?_) (fun c61 => ?_)
        · have hac : x_acb (x_sw (z 0) m p) = true := by simpa using c61
          obtain ⟨ht, hf3⟩ := hq1 hac
          have hM3 := m_R_fr hM2 hf3 (Or.inl (by omega))
          have hO3 := m_O_eq hO (m_eq_fr hf3 (by omega))
          have h33 := (congrFun (hf3 212 (by omega)) 3).trans h3
          have hff := s_fr_tr hf (s_fr_w (lo' := 212) (hi' := 234) hf3 (by omega) (by omega))
          refine r_aload_n dX12_swap_77 rfl rfl ?_
          refine s_V0I mX12_greatestEnd dX12_swap_78 okX12_greatestEnd lX12_185 npX12_greatestEnd lysX12 rfl (by decide) (by decide) (by decide) (Nat.le_of_ble_eq_true rfl) (Nat.le_of_ble_eq_true rfl) (c_greatestEnd0 hM3 ⟨hw2, x_acb_t hac⟩ ht) (fun x s1 hq => ?_)
          obtain ⟨rfl, rfl⟩ := hq
          refine s_iret dX12_swap_81 rfl rfl ?_
          exact m_P_x (by unfold A_swap A_ch; rw [if_pos c5, em, if_pos c31, ep, if_pos hac]) h33 hM3 hO3 hff
        · have hac : x_acb (x_sw (z 0) m p) = false := by simpa using c61
          obtain ⟨⟨w0, w1, w2, w3⟩, r1, r2⟩ := hq2 hac
          have hM3 : m_R (x_sw (z 0) m p) s1 := fun k hk => by rw [r2 213 (by decide) (by decide) (by decide) (by decide)]; exact hM2 k hk
          refine r_aload_n dX12_swap_64 rfl rfl ?_
          refine r_iload_n dX12_swap_65 rfl rfl ?_
          refine r_iload_n dX12_swap_66 rfl rfl ?_
          refine s_V2V mX12_exchange dX12_swap_67 okX12_exchange lX12_221 npX12_exchange lysX12 rfl (by decide) (by decide) (by decide) (Nat.le_of_ble_eq_true rfl) (Nat.le_of_ble_eq_true rfl) (c_mExchange hM3 hm (by omega)) (fun s1 hq => ?_)
          obtain ⟨hM4, hf4⟩ := hq
          rw [x_sw_sw] at hM4
          refine r_aload_n dX12_swap_70 rfl rfl ?_
          refine n_const 3 dX12_swap_71 (by decide) ?_
          refine a_put dX12_swap_72 gX12_79 lysX12 rfl rfl rfl (fun s5 hs5 hf5 => ?_)
          refine n_const 0 dX12_swap_75 (by decide) ?_
          refine s_iret dX12_swap_76 rfl rfl ?_
          have hOc : m_O (z_cyc z (x_sw (z 0) m p)) s5 := by
            refine m_O_cyc hO (s1 := s5) ?_ ?_ ?_ ?_ (fun k hk => ?_) (fun j hj => ?_)
            · rw [hf5 216 (by omega), hf4 216 (by omega)]; exact w0
            · rw [hf5 216 (by omega), hf4 216 (by omega)]; exact w1
            · rw [hf5 216 (by omega), hf4 216 (by omega)]; exact w2
            · rw [hs5, pk_un (by decide), hf4 212 (by omega)]; exact w3
            · rw [hf5 k (by omega), hf4 k (by omega), r2 k (by omega) (by omega) (by omega) (by omega)]
            · rw [hs5, pk_un (by omega), hf4 212 (by omega), r1 j (by omega)]
          have hfe : s_fr 212 234 _ s5 := s_fr_tr hf (fun k hk => by rw [hf5 k (by omega), hf4 k (by omega), r2 k (by omega) (by omega) (by omega) (by omega)])
          exact m_P_i (b := (3, 0, z_cyc z (x_sw (z 0) m p))) (by unfold A_swap A_ch; rw [if_pos c5, em, if_pos c31, ep, if_neg (by rw [hac]; decide)]) (fun q => absurd q (Nat.succ_ne_zero 2)) (by rw [hs5, pk_us]) (m_R_fr hM4 hf5 (Or.inr (by omega))) hOc hfe
      · exact absurd c46 (by decide)
    · refine n_const 2 dX12_swap_34 (by decide) ?_
      refine r_goto (tgt := 39) dX12_swap_35 (by decide) ?_
      refine a_put dX12_swap_39 gX12_79 lysX12 rfl rfl rfl (fun s1 hs1 hf1 => ?_)
      have h3 := (congrFun hs1 3).trans pk_us
      have hM := m_R_fr hM hf1 (Or.inr (by omega))
      have hO := m_O_eq hO (m_eq_put hs1 hf1 (by decide))
      have hf := s_fr_tr hf (s_fr_w (lo' := 212) (hi' := 234) hf1 (by omega) (by omega))
      refine r_aload_n dX12_swap_42 rfl rfl ?_
      refine s_getI dX12_swap_43 fX12_79 lysX12 rfl h3 ?_
      refine n_ifle (tgt := 51) dX12_swap_46 (by decide) (by omega) (fun c46 => ?_) (fun c46 => ?_)
      · exact absurd c46 (by decide)
      · refine n_const 0 dX12_swap_49 (by decide) ?_
        refine s_iret dX12_swap_50 rfl rfl ?_
        first
          | exact m_P_e (by unfold A_swap; simp [*]) (by decide) h3 hM hO hf
  · refine n_const 1 dX12_swap_8 (by decide) ?_
    refine r_goto (tgt := 39) dX12_swap_9 (by decide) ?_
    refine a_put dX12_swap_39 gX12_79 lysX12 rfl rfl rfl (fun s1 hs1 hf1 => ?_)
    have h3 := (congrFun hs1 3).trans pk_us
    have hM := m_R_fr hM hf1 (Or.inr (by omega))
    have hO := m_O_eq hO (m_eq_put hs1 hf1 (by decide))
    have hf := s_fr_tr hf (s_fr_w (lo' := 212) (hi' := 234) hf1 (by omega) (by omega))
    refine r_aload_n dX12_swap_42 rfl rfl ?_
    refine s_getI dX12_swap_43 fX12_79 lysX12 rfl h3 ?_
    refine n_ifle (tgt := 51) dX12_swap_46 (by decide) (by omega) (fun c46 => ?_) (fun c46 => ?_)
    · exact absurd c46 (by decide)
    · refine n_const 0 dX12_swap_49 (by decide) ?_
      refine s_iret dX12_swap_50 rfl rfl ?_
      first
        | exact m_P_e (by unfold A_swap; simp [*]) (by decide) h3 hM hO hf
