/-! ===== the class: exchange, the failure of a cycle, swap ===== -/
theorem c_R_row {X X' : x_T} {s s1 : s_T} {o m : Nat} (hC : c_R X s o) (hw : x_wf X) (hm : m < 4) (hX : ∀ k, k < 183 + 5 * m ∨ 183 + 5 * m + X (179 + m) ≤ k → X' k = X k) (hf : s_fr (o + 37 + m) (o + 37 + m + 1) s s1) (hr : ∀ p, p < X (179 + m) → s1 (o + 37 + m) p = nI (X' (183 + 5 * m + p))) : c_R X' s1 o := by
  have hs := x_sz hw
  have lo : ∀ k, k < 183 → X' k = X k := fun k hk => hX k (by omega)
  have r : ∀ k, k < o + 37 → s1 k = s k := fun k hk => hf k (by omega)
  refine ⟨⟨?_, ?_⟩, fun j hj => ?_, fun k hk => ?_, fun f g hf9 hg => ?_, fun m' hm' => ?_, fun m' hm' => ?_⟩
  · rw [r o (by omega), lo 0 (by omega)]; exact cl_jobs hC
  · rw [r o (by omega), lo 1 (by omega)]; exact cl_ops hC
  · rw [lo 0 (by omega)] at hj
    have hjb := x_jb hw hj
    rw [r (o + 2 + j) (by omega), r (o + 7) (by omega), r (o + 9 + j) (by omega), lo (2 + j) (by omega), lo (7 + j) (by omega), lo (12 + j) (by omega), lo (17 + j) (by omega)]
    refine ⟨cl_rel hC hj, cl_due hC hj, cl_wt hC hj, cl_len hC hj, fun i hi => ?_⟩
    rw [lo _ (by omega)]; exact cl_rt hC hj hi
  · rw [lo 1 (by omega)] at hk
    rw [r (o + 14) (by omega), r (o + 15) (by omega), r (o + 16) (by omega), r (o + 17) (by omega), r (o + 18) (by omega), lo (42 + k) (by omega), lo (62 + k) (by omega), lo (82 + k) (by omega), lo (102 + k) (by omega), lo (122 + k) (by omega)]
    exact ⟨cl_job hC hk, cl_mc hC hk, cl_du hC hk, cl_fa hC hk, cl_st hC hk⟩
  · rw [r (o + 20 + f) (by omega), lo _ (by omega)]; exact cl_su hC hf9 hg
  · have hb := x_mn hw hm'
    rw [r (o + 23) (by omega), r (o + 25 + m') (by omega), r (o + 30 + m') (by omega), lo (151 + m') (by omega)]
    refine ⟨cl_bn hC hm', fun i hi => ?_⟩
    rw [lo (155 + 3 * m' + i) (by omega), lo (167 + 3 * m' + i) (by omega)]
    exact ⟨cl_bf hC hm' hi, cl_bb hC hm' hi⟩
  · have hb := x_mn hw hm'
    have hbm := x_mn hw hm
    rw [r (o + 35) (by omega), lo (179 + m') (by omega)]
    refine ⟨cl_on hC hm', fun p hp => ?_⟩
    by_cases e : m' = m
    · subst e; exact hr p hp
    · rw [hf (o + 37 + m') (by omega), hX (183 + 5 * m' + p) (by omega)]; exact cl_ord hC hm' hp
set_option maxRecDepth 20000 in
set_option maxHeartbeats 1000000 in
theorem c_exchange {G : q_G} {s : s_T} {q m p : Nat} {v0 v1 : Int32} (hq : isX5 q) (hm : m < 4) (hp : p + 1 < 5) (h0 : s (q + 3 + m) p = v0) (h1 : s (q + 3 + m) (p + 1) = v1) : s_W G mX5_exchange 1 0 0 (c_V (fun s1 => s1 (q + 3 + m) = upd (upd (s (q + 3 + m)) p v1) (p + 1) v0 ∧ s_fr (q + 3 + m) (q + 3 + m + 1) s s1)) 0 (q_ent mX5_exchange [.ref q, .int (nI m), .int (nI p)]) [] s := by
  show s_W G mX5_exchange 1 0 0 _ 0 [some (.ref q), some (.int (nI m)), some (.int (nI p)), none, none] [] s
  refine r_aload_n dX5_exchange_0 rfl rfl ?_
  refine s_getR dX5_exchange_1 fX5_17 (layX5 hq) rfl ?_
  refine r_iload_n dX5_exchange_4 rfl rfl ?_
  refine a_ald dX5_exchange_5 (X5_rows hq) (by omega) (by decide) ?_
  refine r_astore_n dX5_exchange_6 rfl (by decide) rfl ?_
  refine r_aload_n dX5_exchange_7 rfl rfl ?_
  refine r_iload_n dX5_exchange_8 rfl rfl ?_
  refine a_ld dX5_exchange_9 (X5_rows_row hq (by omega)) (by omega) (by decide) h0 ?_
  refine r_istore dX5_exchange_10 (by decide) rfl ?_
  refine r_aload_n dX5_exchange_12 rfl rfl ?_
  refine r_iload_n dX5_exchange_13 rfl rfl ?_
  refine r_aload_n dX5_exchange_14 rfl rfl ?_
  refine r_iload_n dX5_exchange_15 rfl rfl ?_
  refine n_const 1 dX5_exchange_16 (by decide) ?_
  refine n_add dX5_exchange_17 ?_
  refine a_ld dX5_exchange_18 (X5_rows_row hq (by omega)) (by omega) (by decide) h1 ?_
  refine a_st dX5_exchange_19 (X5_rows_row hq (by omega)) (by omega) (by decide) (fun s1 hs1 hf1 => ?_)
  refine r_aload_n dX5_exchange_20 rfl rfl ?_
  refine r_iload_n dX5_exchange_21 rfl rfl ?_
  refine n_const 1 dX5_exchange_22 (by decide) ?_
  refine n_add dX5_exchange_23 ?_
  refine r_iload dX5_exchange_24 rfl ?_
  refine a_st dX5_exchange_26 (X5_rows_row hq (by omega)) (by omega) (by decide) (fun s2 hs2 hf2 => ?_)
  refine s_vret dX5_exchange_27 rfl ?_
  exact ⟨rfl, by rw [hs2, hs1], s_fr_tr hf1 hf2⟩
theorem c_exchR {G : q_G} {s : s_T} {X : x_T} {o m p : Nat} (ho : isX7 o) (hC : c_R X s o) (hw : x_wf X) (hm : m < 4) (hp : p + 1 < X (179 + m)) : s_W G mX5_exchange 1 0 0 (c_V (fun s1 => c_R (x_sw X m p) s1 o ∧ s_fr (o + 37 + m) (o + 37 + m + 1) s s1)) 0 (q_ent mX5_exchange [.ref (o + 34), .int (nI m), .int (nI p)]) [] s := by
  have hb := x_mn hw hm
  refine s_mono (Nat.le_refl _) (Nat.le_refl _) (Nat.le_refl _) ?_ (c_exchange (X7_orders ho) hm (by omega) rfl rfl)
  rintro r s1 ⟨rfl, h1, h2⟩
  rw [show o + 34 + 3 + m = o + 37 + m by omega] at h1 h2
  refine ⟨rfl, c_R_row hC hw hm (x_sw_pr hw hm hp).1 h2 (fun q hq => ?_), h2⟩
  rw [h1, x_sw_at]
  by_cases e1 : q = p + 1
  · subst e1; rw [pk_us, if_pos rfl]; exact cl_ord hC hm (by omega)
  · rw [pk_un e1, if_neg (by omega)]
    by_cases e2 : q = p
    · subst e2; rw [pk_us, if_pos rfl]; exact cl_ord hC hm (by omega)
    · rw [pk_un e2, if_neg (by omega)]; exact cl_ord hC hm hq
set_option maxRecDepth 20000 in
set_option maxHeartbeats 1000000 in
theorem c_begin {G : q_G} {s : s_T} {c : Int32} : s_W G mX4_begin 1 0 0 (c_V (fun s1 => s1 211 0 = c ∧ s1 210 0 = nI 1 ∧ s_fr 210 212 s s1)) 0 (q_ent mX4_begin [.ref 210, .int c]) [] s := by
  show s_W G mX4_begin 1 0 0 _ 0 [some (.ref 210), some (.int c)] [] s
  refine r_aload_n dX4_begin_0 rfl rfl ?_
  refine s_getR dX4_begin_1 fX4_9 lysX4 rfl ?_
  refine n_const 0 dX4_begin_4 (by decide) ?_
  refine r_iload_n dX4_begin_5 rfl rfl ?_
  refine a_st dX4_begin_6 rfl (by omega) (by decide) (fun s1 hs1 hf1 => ?_)
  refine r_aload_n dX4_begin_7 rfl rfl ?_
  refine n_const 1 dX4_begin_8 (by decide) ?_
  refine a_put dX4_begin_9 gX4_15 lysX4 rfl rfl rfl (fun s2 hs2 hf2 => ?_)
  refine s_vret dX4_begin_12 rfl ?_
  exact ⟨rfl, by rw [hf2 211 (by omega), hs1, pk_us], by rw [hs2, pk_us], fun q hq => by rw [hf2 q (by omega), hf1 q (by omega)]⟩
set_option maxRecDepth 20000 in
set_option maxHeartbeats 1000000 in
theorem c_because {G : q_G} {s : s_T} {c : Int32} {n : Nat} (h0 : s 210 0 = nI n) (hn : n < 4) : s_W G mX4_because 1 0 0 (c_V (fun s1 => s1 211 = upd (s 211) n c ∧ s1 210 0 = nI (n + 1) ∧ s_fr 210 212 s s1)) 0 (q_ent mX4_because [.ref 210, .int c]) [] s := by
  show s_W G mX4_because 1 0 0 _ 0 [some (.ref 210), some (.int c)] [] s
  refine r_aload_n dX4_because_0 rfl rfl ?_
  refine s_getI dX4_because_1 fX4_15 lysX4 rfl h0 ?_
  refine r_aload_n dX4_because_4 rfl rfl ?_
  refine s_getR dX4_because_5 fX4_9 lysX4 rfl ?_
  refine s_alen dX4_because_8 rfl (by decide) rfl ?_
  refine n_cge (tgt := 32) dX4_because_9 (by decide) (by omega) (by omega) (fun c9 => ?_) (fun c9 => ?_)
  · have c9 : 4 ≤ n := c9
    exact absurd c9 (by omega)
  · refine r_aload_n dX4_because_12 rfl rfl ?_
    refine s_getR dX4_because_13 fX4_9 lysX4 rfl ?_
    refine r_aload_n dX4_because_16 rfl rfl ?_
    refine s_getI dX4_because_17 fX4_15 lysX4 rfl h0 ?_
    refine r_iload_n dX4_because_20 rfl rfl ?_
    refine a_st dX4_because_21 rfl (by omega) (by decide) (fun s1 hs1 hf1 => ?_)
    refine r_aload_n dX4_because_22 rfl rfl ?_
    refine r_dup dX4_because_23 rfl ?_
    refine s_getI dX4_because_24 fX4_15 lysX4 rfl (show s1 210 0 = nI n by rw [hf1 210 (by omega)]; exact h0) ?_
    refine n_const 1 dX4_because_27 (by decide) ?_
    refine n_add dX4_because_28 ?_
    refine a_put dX4_because_29 gX4_15 lysX4 rfl rfl rfl (fun s2 hs2 hf2 => ?_)
    refine s_vret dX4_because_32 rfl ?_
    exact ⟨rfl, by rw [hf2 211 (by omega), hs1], by rw [hs2, pk_us], fun q hq => by rw [hf2 q (by omega), hf1 q (by omega)]⟩
set_option maxRecDepth 20000 in
set_option maxHeartbeats 1000000 in
theorem c_lowestUndefined {G : q_G} {s : s_T} {X : x_T} {K : Nat → Bool} {sd : Nat → Nat} {o h k0 : Nat} (ho : isX7 o) (hh : isX10 h) (hC : c_R X s o) (hw : x_wf X) (hsd : ∀ j, j < 5 → s (h + 6) j = nI (sd j)) (hsd2 : ∀ j, j < X 0 → sd j ≤ X (17 + j)) (hK : ∀ o, o < X 1 → (K o = true ↔ X (122 + o) < sd (X (42 + o)))) (h1 : k0 < X 1) (h2 : K k0 = false) (h3 : ∀ q, q < k0 → K q = true) : s_W G mX10_lowestUndefined 1 0 0 (c_I (fun y9 s1 => s1 = s ∧ y9 = nI k0)) 0 (q_ent mX10_lowestUndefined [.ref h, .ref o]) [] s := by
  show s_W G mX10_lowestUndefined 1 0 0 _ 0 [some (.ref h), some (.ref o), none] [] s
  have hs := x_sz hw
  have lp : ∀ f k, k ≤ k0 → k0 < k + f → s_W G mX10_lowestUndefined 1 0 0 (c_I (fun y9 s1 => s1 = s ∧ y9 = nI k0)) 2 [some (.ref h), some (.ref o), some (.int (nI k))] [] s := by
    intro f
    induction f with
    | zero =>
      intro k hk hme
      exact absurd hme (by omega)
    | succ f ih =>
      intro k hk hme
      refine r_iload_n dX10_lowestUndefined_2 rfl rfl ?_
      refine r_aload_n dX10_lowestUndefined_3 rfl rfl ?_
      refine s_getI dX10_lowestUndefined_4 fX10_44 (layX7 ho) rfl (cl_ops hC) ?_
      refine n_cge (tgt := 38) dX10_lowestUndefined_7 (by decide) (by omega) (by omega) (fun c7 => ?_) (fun c7 => ?_)
      · refine n_const 0 dX10_lowestUndefined_38 (by decide) ?_
        refine s_iret dX10_lowestUndefined_39 rfl rfl ?_
        first
          | (have e : k = k0 := by
               by_cases e : k = k0
               · exact e
               · exact absurd ((hK k c7).mp (h3 k (by omega))) (by omega)
             subst e
             exact ⟨_, rfl, rfl, rfl⟩)
          | exact absurd c7 (by omega)
      · have hop := x_op hw c7
        have hsb := hsd2 _ hop.2.2.1
        refine r_aload_n dX10_lowestUndefined_10 rfl rfl ?_
        refine s_getR dX10_lowestUndefined_11 fX10_77 (layX7 ho) rfl ?_
        refine r_iload_n dX10_lowestUndefined_14 rfl rfl ?_
        refine a_ld dX10_lowestUndefined_15 (X7_stepOf ho) (by omega) (by decide) (cl_st hC (by omega)) ?_
        refine r_aload_n dX10_lowestUndefined_16 rfl rfl ?_
        refine s_getR dX10_lowestUndefined_17 fX10_28 (layX10 hh) rfl ?_
        refine r_aload_n dX10_lowestUndefined_20 rfl rfl ?_
        refine s_getR dX10_lowestUndefined_21 fX10_80 (layX7 ho) rfl ?_
        refine r_iload_n dX10_lowestUndefined_24 rfl rfl ?_
        refine a_ld dX10_lowestUndefined_25 (X7_jobOf ho) (by omega) (by decide) (cl_job hC (by omega)) ?_
        refine a_ld dX10_lowestUndefined_26 (X10_stepsDone hh) (by omega) (by decide) (hsd _ (by omega)) ?_
        refine n_clt (tgt := 32) dX10_lowestUndefined_27 (by decide) (by omega) (by omega) (fun c27 => ?_) (fun c27 => ?_)
        · refine n_inc dX10_lowestUndefined_32 rfl (n_i1 _) (by decide) rfl ?_
          refine r_goto (tgt := 2) dX10_lowestUndefined_35 (by decide) ?_
          refine ih (k + 1) ?_ (by omega)
          by_cases e : k = k0
          · subst e; exact absurd ((hK k c7).mpr c27) (by rw [h2]; decide)
          · omega
        · refine r_iload_n dX10_lowestUndefined_30 rfl rfl ?_
          refine s_iret dX10_lowestUndefined_31 rfl rfl ?_
          first
            | (have e : k = k0 := by
                 by_cases e : k = k0
                 · exact e
                 · exact absurd ((hK k c7).mp (h3 k (by omega))) (by omega)
               subst e
               exact ⟨_, rfl, rfl, rfl⟩)
            | exact absurd c7 (by omega)
  refine n_const 0 dX10_lowestUndefined_0 (by decide) ?_
  refine r_istore_n dX10_lowestUndefined_1 rfl (by decide) rfl ?_
  exact lp (k0 + 1) 0 (by omega) (by omega)
set_option maxRecDepth 20000 in
set_option maxHeartbeats 1000000 in
theorem c_noteCycle {G : q_G} {s : s_T} {X : x_T} {K : Nat → Bool} {sd : Nat → Nat} {k0 ct : Nat} (hC : c_R X s 1) (hw : x_wf X) (hsd : ∀ j, j < 5 → s (124 + 6) j = nI (sd j)) (hsd2 : ∀ j, j < X 0 → sd j ≤ X (17 + j)) (hK : ∀ o, o < X 1 → (K o = true ↔ X (122 + o) < sd (X (42 + o)))) (h1 : k0 < X 1) (h2 : K k0 = false) (h3 : ∀ q, q < k0 → K q = true) (h5 : s 124 5 = nI ct) (hct : ct ≤ X 1) : s_W G mX11_noteCycle 2 0 0 (c_V (fun s1 => s1 211 0 = nI 1 ∧ s1 211 1 = nI (100 + k0) ∧ s1 211 2 = nI (X 1 - ct) ∧ s1 210 0 = nI 3 ∧ s_fr 210 212 s s1)) 0 (q_ent mX11_noteCycle [.ref 0]) [] s := by
  show s_W G mX11_noteCycle 2 0 0 _ 0 [some (.ref 0)] [] s
  have hs := x_sz hw
  have ho : isX7 1 := Or.inl rfl
  refine r_aload_n dX11_noteCycle_0 rfl rfl ?_
  refine s_getR dX11_noteCycle_1 fX11_84 lysX11 rfl ?_
  refine n_const 1 dX11_noteCycle_4 (by decide) ?_
  refine s_V1V mX4_begin dX11_noteCycle_5 okX4_begin lX11_361 npX4_begin lysX4 rfl (by decide) (by decide) (by decide) (Nat.le_of_ble_eq_true rfl) (Nat.le_of_ble_eq_true rfl) c_begin (fun s1 hq => ?_)
  obtain ⟨q1, q2, f1⟩ := hq
  refine r_aload_n dX11_noteCycle_8 rfl rfl ?_
  refine s_getR dX11_noteCycle_9 fX11_84 lysX11 rfl ?_
  refine n_bip 100 dX11_noteCycle_12 (by decide) ?_
  refine r_aload_n dX11_noteCycle_14 rfl rfl ?_
  refine s_getR dX11_noteCycle_15 fX11_25 lysX11 rfl ?_
  refine r_aload_n dX11_noteCycle_18 rfl rfl ?_
  refine s_getR dX11_noteCycle_19 fX11_10 lysX11 rfl ?_
  refine s_V1I mX10_lowestUndefined dX11_noteCycle_22 okX10_lowestUndefined lX11_409 npX10_lowestUndefined (layX10 isX10_124) rfl (by decide) (by decide) (by decide) (Nat.le_of_ble_eq_true rfl) (Nat.le_of_ble_eq_true rfl) (c_lowestUndefined ho isX10_124 (c_R_fr hC f1 (Or.inl (by omega)) hs.1) hw (fun j hj => by rw [f1 (124 + 6) (by omega)]; exact hsd j hj) hsd2 hK h1 h2 h3) (fun x s1 hq => ?_)
  obtain ⟨rfl, rfl⟩ := hq
  refine n_add dX11_noteCycle_25 ?_
  refine s_V1V mX4_because dX11_noteCycle_26 okX4_because lX11_364 npX4_because lysX4 rfl (by decide) (by decide) (by decide) (Nat.le_of_ble_eq_true rfl) (Nat.le_of_ble_eq_true rfl) (c_because q2 (by decide)) (fun s3 hq => ?_)
  obtain ⟨r1, r2, f3⟩ := hq
  refine r_aload_n dX11_noteCycle_29 rfl rfl ?_
  refine s_getR dX11_noteCycle_30 fX11_84 lysX11 rfl ?_
  refine r_aload_n dX11_noteCycle_33 rfl rfl ?_
  refine s_getR dX11_noteCycle_34 fX11_10 lysX11 rfl ?_
  refine s_getI dX11_noteCycle_37 fX11_181 (layX7 isX7_1) rfl (show s3 1 1 = nI (X 1) by rw [f3 1 (by omega), f1 1 (by omega)]; exact cl_ops hC) ?_
  refine r_aload_n dX11_noteCycle_40 rfl rfl ?_
  refine s_getR dX11_noteCycle_41 fX11_25 lysX11 rfl ?_
  refine s_getI dX11_noteCycle_44 fX11_412 (layX10 isX10_124) rfl (show s3 124 5 = nI ct by rw [f3 124 (by omega), f1 124 (by omega)]; exact h5) ?_
  refine n_sub dX11_noteCycle_47 (by omega) ?_
  refine s_V1V mX4_because dX11_noteCycle_48 okX4_because lX11_364 npX4_because lysX4 rfl (by decide) (by decide) (by decide) (Nat.le_of_ble_eq_true rfl) (Nat.le_of_ble_eq_true rfl) (c_because r2 (by decide)) (fun s1 hq => ?_)
  obtain ⟨u1, u2, f4⟩ := hq
  refine s_vret dX11_noteCycle_51 rfl ?_
  refine ⟨rfl, ?_, ?_, ?_, u2, fun q hq => by rw [f4 q hq, f3 q hq, f1 q hq]⟩
  · rw [u1, pk_un (by decide), r1, pk_un (by decide)]; exact q1
  · rw [u1, pk_un (by decide), r1]; exact pk_us
  · rw [u1]; exact pk_us
