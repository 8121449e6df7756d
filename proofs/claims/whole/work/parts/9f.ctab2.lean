section
/-! ===== the class: steps of the tabu search ===== -/
theorem c_R_or {X X' : x_T} {s s1 : s_T} (hC : c_R X s 1) (hw : x_wf X) (lo : ∀ k, k < 183 → X' k = X k) (hO : c_O X' s1 35) (hf : ∀ k, 1 ≤ k → k < 35 → s1 k = s k) : c_R X' s1 1 := by
  have hs := x_sz hw
  obtain ⟨⟨a1, a2⟩, b, c, d, e, f⟩ := hC
  refine ⟨⟨by rw [hf 1 (by omega) (by omega), lo 0 (by omega)]; exact a1, by rw [hf 1 (by omega) (by omega), lo 1 (by omega)]; exact a2⟩, fun j hj => ?_, fun k hk => ?_, fun x y hx hy => ?_, fun m' hm' => ?_, fun m' hm' => ?_⟩
  · rw [lo 0 (by omega)] at hj
    have hjb := x_jb hw hj
    rw [hf (1 + 2 + j) (by omega) (by omega), hf (1 + 7) (by omega) (by omega), hf (1 + 9 + j) (by omega) (by omega), lo (2 + j) (by omega), lo (7 + j) (by omega), lo (12 + j) (by omega), lo (17 + j) (by omega)]
    obtain ⟨b1, b2, b3, b4, b5⟩ := b j hj
    exact ⟨b1, b2, b3, b4, fun i hi => by rw [lo (22 + 4 * j + i) (by omega)]; exact b5 i hi⟩
  · rw [lo 1 (by omega)] at hk
    rw [hf (1 + 14) (by omega) (by omega), hf (1 + 15) (by omega) (by omega), hf (1 + 16) (by omega) (by omega), hf (1 + 17) (by omega) (by omega), hf (1 + 18) (by omega) (by omega), lo (42 + k) (by omega), lo (62 + k) (by omega), lo (82 + k) (by omega), lo (102 + k) (by omega), lo (122 + k) (by omega)]
    exact c k hk
  · rw [hf (1 + 20 + x) (by omega) (by omega), lo (142 + 3 * x + y) (by omega)]; exact d x y hx hy
  · have hb := x_mn hw hm'
    rw [hf (1 + 23) (by omega) (by omega), hf (1 + 25 + m') (by omega) (by omega), hf (1 + 30 + m') (by omega) (by omega), lo (151 + m') (by omega)]
    obtain ⟨e1, e2⟩ := e m' hm'
    exact ⟨e1, fun i hi => by rw [lo (155 + 3 * m' + i) (by omega), lo (167 + 3 * m' + i) (by omega)]; exact e2 i hi⟩
  · have q := hO m' hm'
    rw [show 35 + 1 = 1 + 35 by omega, show 35 + 3 + m' = 1 + 37 + m' by omega] at q
    exact q
theorem c_O_cp {X : x_T} {s s1 : s_T} {q0 q1 : Nat} (h : c_O X s q1) (h5 : ∀ m, m < 4 → X (179 + m) ≤ 5) (g1 : ∀ m, m < 4 → s1 (q0 + 1) m = s (q1 + 1) m) (g2 : ∀ i j, i < 4 → j < 5 → s1 (q0 + 3 + i) j = s (q1 + 3 + i) j) : c_O X s1 q0 := fun m hm => by
  have q := h m hm
  have := h5 m hm
  exact ⟨by rw [g1 m hm]; exact q.1, fun p hp => by rw [g2 m p hm (by omega)]; exact q.2 p hp⟩
theorem c_O_fr {X : x_T} {s s1 : s_T} {q : Nat} (h : c_O X s q) (hf : ∀ k, q < k → k < q + 7 → s1 k = s k) : c_O X s1 q := fun m hm => by
  rw [hf (q + 1) (by omega) (by omega), hf (q + 3 + m) (by omega) (by omega)]; exact h m hm
set_option maxRecDepth 20000 in
set_option maxHeartbeats 1000000 in
theorem c_forgetSwaps {G : q_G} {s : s_T}  : s_W G mX8_forgetSwaps 1 0 0 (c_V (fun s1 => T_W (fun _ _ => 0) s1 ∧ s_fr 182 202 s s1)) 0 (q_ent mX8_forgetSwaps [.ref 161]) [] s := by
  show s_W G mX8_forgetSwaps 1 0 0 _ 0 [some (.ref 161), none, none] [] s
  have ol : ∀ f a (L2 : Option Value) u1, (∀ a9 b9, a9 < a → b9 < 20 → u1 (182 + a9) b9 = nI 0) → s_fr 182 202 s u1 → a ≤ 20 → 20 < a + f → s_W G mX8_forgetSwaps 1 0 0 (c_V (fun s1 => T_W (fun _ _ => 0) s1 ∧ s_fr 182 202 s s1)) 2 [some (.ref 161), some (.int (nI a)), L2] [] u1 := by
    intro f
    induction f with
    | zero =>
      intro a L2 u1 hA hf ha hme
      exact absurd hme (by omega)
    | succ f ih =>
      intro a L2 u1 hA hf ha hme
      refine r_iload_n dX8_forgetSwaps_2 rfl rfl ?_
      refine n_bip 20 dX8_forgetSwaps_3 (by decide) ?_
      refine n_cge (tgt := 37) dX8_forgetSwaps_5 (by decide) (by omega) (by omega) (fun c5 => ?_) (fun c5 => ?_)
      · refine s_vret dX8_forgetSwaps_37 rfl ?_
        have e9 : a = 20 := by omega
        subst e9
        exact ⟨rfl, hA, hf⟩
      · refine n_const 0 dX8_forgetSwaps_8 (by decide) ?_
        refine r_istore_n dX8_forgetSwaps_9 rfl (by decide) rfl ?_
        have il : ∀ f2 b u1, (∀ a9 b9, a9 < a → b9 < 20 → u1 (182 + a9) b9 = nI 0) → (∀ b9, b9 < b → u1 (182 + a) b9 = nI 0) → s_fr 182 202 s u1 → b ≤ 20 → 20 < b + f2 → s_W G mX8_forgetSwaps 1 0 0 (c_V (fun s1 => T_W (fun _ _ => 0) s1 ∧ s_fr 182 202 s s1)) 10 [some (.ref 161), some (.int (nI a)), some (.int (nI b))] [] u1 := by
          intro f2
          induction f2 with
          | zero =>
            intro b u1 hA hB hf hb hme
            exact absurd hme (by omega)
          | succ f2 ih2 =>
            intro b u1 hA hB hf hb hme
            refine r_iload_n dX8_forgetSwaps_10 rfl rfl ?_
            refine n_bip 20 dX8_forgetSwaps_11 (by decide) ?_
            refine n_cge (tgt := 31) dX8_forgetSwaps_13 (by decide) (by omega) (by omega) (fun c13 => ?_) (fun c13 => ?_)
            · refine n_inc dX8_forgetSwaps_31 rfl (n_i1 _) (by decide) rfl ?_
              refine r_goto (tgt := 2) dX8_forgetSwaps_34 (by decide) ?_
              have e9 : b = 20 := by omega
              subst e9
              refine ih (a + 1) _ u1 (fun a9 b9 ha9 hb9 => ?_) hf (by omega) (by omega)
              by_cases e : a9 = a
              · subst e; exact hB b9 hb9
              · exact hA a9 b9 (by omega) hb9
            · refine r_aload_n dX8_forgetSwaps_16 rfl rfl ?_
              refine s_getR dX8_forgetSwaps_17 fX8_34 lysX8 rfl ?_
              refine r_iload_n dX8_forgetSwaps_20 rfl rfl ?_
              refine a_ald dX8_forgetSwaps_21 (X8_stepOfSwap rfl) (by omega) (by decide) ?_
              refine r_iload_n dX8_forgetSwaps_22 rfl rfl ?_
              refine n_const 0 dX8_forgetSwaps_23 (by decide) ?_
              refine a_st dX8_forgetSwaps_24 (X8_stepOfSwap_row rfl (by omega)) (by omega) (by decide) (fun s2 hs2 hf2 => ?_)
              refine n_inc dX8_forgetSwaps_25 rfl (n_i1 _) (by decide) rfl ?_
              refine r_goto (tgt := 10) dX8_forgetSwaps_28 (by decide) ?_
              refine ih2 (b + 1) s2 (fun a9 b9 ha9 hb9 => ?_) (fun b9 hb9 => ?_) (s_fr_tr hf (s_fr_w hf2 (by omega) (by omega))) (by omega) (by omega)
              · rw [hf2 (182 + a9) (by omega)]; exact hA a9 b9 ha9 hb9
              · rw [hs2]
                by_cases e : b9 = b
                · subst e; rw [pk_us]
                · rw [pk_un e]; exact hB b9 (by omega)
        exact il 21 0 u1 hA (fun b9 hb9 => absurd hb9 (by omega)) hf (by omega) (by omega)
  refine n_const 0 dX8_forgetSwaps_0 (by decide) ?_
  refine r_istore_n dX8_forgetSwaps_1 rfl (by decide) rfl ?_
  exact ol 21 0 _ s (fun a9 b9 ha9 => absurd ha9 (by omega)) s_fr_rf (by omega) (by omega)
set_option maxRecDepth 20000 in
set_option maxHeartbeats 1000000 in
theorem c_makeChosen {G : q_G} {s : s_T} {X Xb : x_T} {W : Nat → Nat → Nat} {st lst : Nat} {c : Nat × Nat} (hC : c_R X s 1) (hw : x_wf X) (g1 : c.1 < 20) (g2 : c.1 / 5 < 4) (g3 : c.1 % 5 + 1 < X (179 + c.1 / 5)) (g4 : x_pr X (t_X X c.1) (c.1 / 5)) (g5 : x_gd (t_X X c.1)) (g7 : c.2 ≤ 1400) (hb : T_b (some c) s) (hW : T_W W s) (h4 : s 161 4 = nI lst) (hl : lst ≤ 1400) (hXb : c_O Xb s 174) (hst : st ≤ 21) : s_W G mX8_makeChosen 5 0 0 (c_V (fun s1 => c_R (t_X X c.1) s1 1 ∧ T_W (t_W X W c.1 st) s1 ∧ s1 161 0 = nI st ∧ s1 161 4 = nI (if c.2 < lst then c.2 else lst) ∧ c_O (if c.2 < lst then t_X X c.1 else Xb) s1 174 ∧ (∀ k, k ≠ 161 → ¬ (38 ≤ k ∧ k < 42) → ¬ (174 ≤ k ∧ k < 202) → s1 k = s k))) 0 (q_ent mX8_makeChosen [.ref 161, .ref 1, .int (nI st)]) [] s := by
  show s_W G mX8_makeChosen 5 0 0 _ 0 [some (.ref 161), some (.ref 1), some (.int (nI st)), none] [] s
  have hs := x_sz hw
  have h5 := (x_mn hw g2).2
  have ho : isX7 1 := Or.inl rfl
  have hJ2 := (x_sz g5.1).1
  have b6 : s 161 6 = nI (c.1 / 5) := hb.1
  have b7 := (hb.2 c rfl).1
  have b8 := (hb.2 c rfl).2
  refine r_aload_n dX8_makeChosen_0 rfl rfl ?_
  refine s_getR dX8_makeChosen_1 fX8_54 (layX7 ho) rfl ?_
  refine r_aload_n dX8_makeChosen_4 rfl rfl ?_
  refine s_getI dX8_makeChosen_5 fX8_71 lysX8 rfl b6 ?_
  refine r_aload_n dX8_makeChosen_8 rfl rfl ?_
  refine s_getI dX8_makeChosen_9 fX8_99 lysX8 rfl b7 ?_
  refine s_V2V mX5_exchange dX8_makeChosen_12 okX5_exchange lX8_92 npX5_exchange (layX5 (X7_orders ho)) rfl (by decide) (by decide) (by decide) (Nat.le_of_ble_eq_true rfl) (Nat.le_of_ble_eq_true rfl) (c_exchR ho hC hw g2 g3) (fun s1 hq => ?_)
  obtain ⟨hC2, hfa⟩ := hq
  replace hC2 : c_R (t_X X c.1) s1 1 := hC2
  have hO := c_R_O hC2
  have hA1 := (x_od g5.1 g2 (p := (c.1 % 5)) (by rw [x_pr_lo g4 (by omega)]; omega)).1
  have hA2 := (x_od g5.1 g2 (p := (c.1 % 5) + 1) (by rw [x_pr_lo g4 (by omega)]; omega)).1
  have lo9 : ∀ k, k < 183 → t_X X c.1 k = X k := fun k hk => x_pr_lo g4 hk
  rw [lo9 1 (by omega)] at hA1 hA2
  have l179 := lo9 (179 + c.1 / 5) (by omega)
  refine r_aload_n dX8_makeChosen_15 rfl rfl ?_
  refine s_getR dX8_makeChosen_16 fX8_54 (layX7 ho) rfl ?_
  refine s_getR dX8_makeChosen_19 fX8_85 (layX5 (X7_orders ho)) rfl ?_
  refine r_aload_n dX8_makeChosen_22 rfl rfl ?_
  refine s_getI dX8_makeChosen_23 fX8_71 lysX8 rfl (show s1 161 6 = nI (c.1 / 5) by rw [hfa 161 (by omega)]; exact b6) ?_
  refine a_ald dX8_makeChosen_26 (X5_rows (X7_orders ho)) (by omega) (by decide) ?_
  refine r_astore_n dX8_makeChosen_27 rfl (by decide) rfl ?_
  refine r_aload_n dX8_makeChosen_28 rfl rfl ?_
  refine s_getR dX8_makeChosen_29 fX8_34 lysX8 rfl ?_
  refine r_aload_n dX8_makeChosen_32 rfl rfl ?_
  refine r_aload_n dX8_makeChosen_33 rfl rfl ?_
  refine s_getI dX8_makeChosen_34 fX8_99 lysX8 rfl (show s1 161 7 = nI (c.1 % 5) by rw [hfa 161 (by omega)]; exact b7) ?_
  refine a_ld dX8_makeChosen_37 (X5_rows_row (X7_orders ho) (by omega)) (by omega) (by decide) (co_ord hO (by omega) (by omega)) ?_
  refine a_ald dX8_makeChosen_38 (X8_stepOfSwap rfl) (by omega) (by decide) ?_
  refine r_aload_n dX8_makeChosen_39 rfl rfl ?_
  refine r_aload_n dX8_makeChosen_40 rfl rfl ?_
  refine s_getI dX8_makeChosen_41 fX8_99 lysX8 rfl (show s1 161 7 = nI (c.1 % 5) by rw [hfa 161 (by omega)]; exact b7) ?_
  refine n_const 1 dX8_makeChosen_44 (by decide) ?_
  refine n_add dX8_makeChosen_45 ?_
  refine a_ld dX8_makeChosen_46 (X5_rows_row (X7_orders ho) (by omega)) (by omega) (by decide) (co_ord hO (by omega) (by omega)) ?_
  refine r_iload_n dX8_makeChosen_47 rfl rfl ?_
  refine a_st dX8_makeChosen_48 (X8_stepOfSwap_row rfl (by omega)) (by omega) (by decide) (fun s2 hs2 hf2 => ?_)
  refine r_aload_n dX8_makeChosen_49 rfl rfl ?_
  refine r_iload_n dX8_makeChosen_50 rfl rfl ?_
  refine a_put dX8_makeChosen_51 gX8_40 lysX8 rfl rfl rfl (fun s3 hs3 hf3 => ?_)
  have hW3 : T_W (t_W X W c.1 st) s3 := fun a9 b9 ha9 hb9 => by
    rw [hf3 (182 + a9) (by omega)]
    unfold t_W
    by_cases e : a9 = (t_X X c.1 (183 + 5 * (c.1 / 5) + (c.1 % 5)))
    · rw [e]
      have hs2' := hs2
      rw [show 161 + 21 + (t_X X c.1 (183 + 5 * (c.1 / 5) + (c.1 % 5))) = 182 + (t_X X c.1 (183 + 5 * (c.1 / 5) + (c.1 % 5))) by omega] at hs2'
      rw [hs2']
      by_cases e2 : b9 = (t_X X c.1 (183 + 5 * (c.1 / 5) + ((c.1 % 5) + 1)))
      · rw [e2, pk_us, if_pos ⟨rfl, rfl⟩]
      · rw [pk_un e2, if_neg (fun z => e2 z.2), hfa (182 + (t_X X c.1 (183 + 5 * (c.1 / 5) + (c.1 % 5)))) (by omega)]
        exact hW _ _ (by omega) hb9
    · rw [hf2 (182 + a9) (by omega), if_neg (fun z => e z.1), hfa (182 + a9) (by omega)]
      exact hW a9 b9 ha9 hb9
  refine r_aload_n dX8_makeChosen_54 rfl rfl ?_
  refine s_getI dX8_makeChosen_55 fX8_96 lysX8 rfl (show s3 161 8 = nI c.2 by rw [hs3, pk_un (by decide), hf2 161 (by omega), hfa 161 (by omega)]; exact b8) ?_
  refine r_aload_n dX8_makeChosen_58 rfl rfl ?_
  refine s_getI dX8_makeChosen_59 fX8_51 lysX8 rfl (show s3 161 4 = nI lst by rw [hs3, pk_un (by decide), hf2 161 (by omega), hfa 161 (by omega)]; exact h4) ?_
  refine n_cge (tgt := 84) dX8_makeChosen_62 (by decide) (by omega) (by omega) (fun c62 => ?_) (fun c62 => ?_)
  · refine s_vret dX8_makeChosen_84 rfl ?_
    first
      | (refine ⟨rfl, c_R_fr (c_R_fr hC2 hf2 (Or.inl (by omega)) hJ2) hf3 (Or.inl (by omega)) hJ2, hW3, by rw [hs3, pk_us], ?_, ?_, fun k e1 e2 e3 => by rw [hf3 k (by omega), hf2 k (by omega), hfa k (by omega)]⟩
         · rw [if_neg (by omega), hs3, pk_un (by decide), hf2 161 (by omega), hfa 161 (by omega)]; exact h4
         · rw [if_neg (by omega)]
           exact c_O_fr hXb (fun k e1 e2 => by rw [hf3 k (by omega), hf2 k (by omega), hfa k (by omega)]))
      | (refine ⟨rfl, c_R_fr (c_R_fr (c_R_fr (c_R_fr hC2 hf2 (Or.inl (by omega)) hJ2) hf3 (Or.inl (by omega)) hJ2) hf4 (Or.inl (by omega)) hJ2) hf5 (Or.inl (by omega)) hJ2, fun a9 b9 ha9 hb9 => by rw [hf5 (182 + a9) (by omega), hf4 (182 + a9) (by omega)]; exact hW3 a9 b9 ha9 hb9, by rw [hf5 161 (by omega), hs4, pk_un (by decide), hs3, pk_us], ?_, ?_, fun k e1 e2 e3 => by rw [hf5 k (by omega), hf4 k (by omega), hf3 k (by omega), hf2 k (by omega), hfa k (by omega)]⟩
         · rw [if_pos (by omega), hf5 161 (by omega), hs4, pk_us]
         · rw [if_pos (by omega)]
           exact c_O_cp (c_O_fr hO (fun k e1 e2 => by rw [hf4 k (by omega), hf3 k (by omega), hf2 k (by omega)])) (fun m9 hm9 => (x_mn g5.1 hm9).2) y1 y2)
  · refine r_aload_n dX8_makeChosen_65 rfl rfl ?_
    refine r_aload_n dX8_makeChosen_66 rfl rfl ?_
    refine s_getI dX8_makeChosen_67 fX8_96 lysX8 rfl (show s3 161 8 = nI c.2 by rw [hs3, pk_un (by decide), hf2 161 (by omega), hfa 161 (by omega)]; exact b8) ?_
    refine a_put dX8_makeChosen_70 gX8_51 lysX8 rfl rfl rfl (fun s4 hs4 hf4 => ?_)
    refine r_aload_n dX8_makeChosen_73 rfl rfl ?_
    refine s_getR dX8_makeChosen_74 fX8_28 lysX8 rfl ?_
    refine r_aload_n dX8_makeChosen_77 rfl rfl ?_
    refine s_getR dX8_makeChosen_78 fX8_54 (layX7 ho) rfl ?_
    refine s_V1V mX5_copyFrom dX8_makeChosen_81 okX5_copyFrom lX8_59 npX5_copyFrom (layX5 isX5_174) rfl (by decide) (by decide) (by decide) (Nat.le_of_ble_eq_true rfl) (Nat.le_of_ble_eq_true rfl) (c_ordersCopy isX5_174 isX5_35 (by omega)) (fun s1 hq => ?_)
    obtain ⟨y1, y2, hf5⟩ := hq
    refine s_vret dX8_makeChosen_84 rfl ?_
    first
      | (refine ⟨rfl, c_R_fr (c_R_fr hC2 hf2 (Or.inl (by omega)) hJ2) hf3 (Or.inl (by omega)) hJ2, hW3, by rw [hs3, pk_us], ?_, ?_, fun k e1 e2 e3 => by rw [hf3 k (by omega), hf2 k (by omega), hfa k (by omega)]⟩
         · rw [if_neg (by omega), hs3, pk_un (by decide), hf2 161 (by omega), hfa 161 (by omega)]; exact h4
         · rw [if_neg (by omega)]
           exact c_O_fr hXb (fun k e1 e2 => by rw [hf3 k (by omega), hf2 k (by omega), hfa k (by omega)]))
      | (refine ⟨rfl, c_R_fr (c_R_fr (c_R_fr (c_R_fr hC2 hf2 (Or.inl (by omega)) hJ2) hf3 (Or.inl (by omega)) hJ2) hf4 (Or.inl (by omega)) hJ2) hf5 (Or.inl (by omega)) hJ2, fun a9 b9 ha9 hb9 => by rw [hf5 (182 + a9) (by omega), hf4 (182 + a9) (by omega)]; exact hW3 a9 b9 ha9 hb9, by rw [hf5 161 (by omega), hs4, pk_un (by decide), hs3, pk_us], ?_, ?_, fun k e1 e2 e3 => by rw [hf5 k (by omega), hf4 k (by omega), hf3 k (by omega), hf2 k (by omega), hfa k (by omega)]⟩
         · rw [if_pos (by omega), hf5 161 (by omega), hs4, pk_us]
         · rw [if_pos (by omega)]
           exact c_O_cp (c_O_fr hO (fun k e1 e2 => by rw [hf4 k (by omega), hf3 k (by omega), hf2 k (by omega)])) (fun m9 hm9 => (x_mn g5.1 hm9).2) y1 y2)
set_option maxRecDepth 20000 in
set_option maxHeartbeats 1000000 in
theorem c_search {G : q_G} {s : s_T} {X0 : x_T} {n ten : Nat} (hC0 : c_R X0 s 1) (hg : x_gd X0) (hop : ∀ k, k < 4 → s 167 k = bI false) (hH : s 162 9 = -1 ∧ ∃ hu, hu ≤ 50000 ∧ s 162 10 = nI hu) (hn : n ≤ 20) (hten : ten ≤ 9) : s_W G mX8_search 6 0 0 (c_I (fun y9 s1 => y9 = nI (x_s0 (t_rs X0 n ten).1) ∧ c_R (t_rs X0 n ten).1 s1 1 ∧ s1 161 0 = nI (t_rs X0 n ten).2 ∧ s1 167 = s 167 ∧ s1 162 9 = s 162 9 ∧ s1 162 10 = s 162 10 ∧ (∀ k, ¬ (1 ≤ k ∧ k < 42) → ¬ (161 ≤ k ∧ k < 202) → s1 k = s k))) 0 (q_ent mX8_search [.ref 161, .ref 1, .int (nI n), .int (nI ten)]) [] s := by
  show s_W G mX8_search 6 0 0 _ 0 [some (.ref 161), some (.ref 1), some (.int (nI n)), some (.int (nI ten)), none] [] s
  have hs := x_sz hg.1
  have ho : isX7 1 := Or.inl rfl
  have fin : ∀ X Xb W md (L4 : Option Value) u1, t_iv X0 X Xb W md → (t_rs X0 n ten) = (Xb, md) → c_R X u1 1 → u1 161 0 = nI md → u1 161 4 = nI (x_s0 Xb) → c_O Xb u1 174 → u1 167 = s 167 → u1 162 9 = s 162 9 → u1 162 10 = s 162 10 → (∀ k, ¬ (1 ≤ k ∧ k < 42) → ¬ (161 ≤ k ∧ k < 202) → u1 k = s k) → s_W G mX8_search 6 0 0 (c_I (fun y9 s1 => y9 = nI (x_s0 (t_rs X0 n ten).1) ∧ c_R (t_rs X0 n ten).1 s1 1 ∧ s1 161 0 = nI (t_rs X0 n ten).2 ∧ s1 167 = s 167 ∧ s1 162 9 = s 162 9 ∧ s1 162 10 = s 162 10 ∧ (∀ k, ¬ (1 ≤ k ∧ k < 42) → ¬ (161 ≤ k ∧ k < 202) → s1 k = s k))) 103 [some (.ref 161), some (.ref 1), some (.int (nI n)), some (.int (nI ten)), L4] [] u1 := by
    intro X Xb W md L4 u1 hiv hX hC h0 h4 hXb k5 k9 k10 hf
    have hRb := hX
    have hz9 := x_s0_bd hiv.2.1
    refine r_aload_n dX8_search_103 rfl rfl ?_
    refine s_getR dX8_search_104 fX8_54 (layX7 ho) rfl ?_
    refine r_aload_n dX8_search_107 rfl rfl ?_
    refine s_getR dX8_search_108 fX8_28 lysX8 rfl ?_
    refine s_V1V mX5_copyFrom dX8_search_111 okX5_copyFrom lX8_59 npX5_copyFrom (layX5 (X7_orders ho)) rfl (by decide) (by decide) (by decide) (Nat.le_of_ble_eq_true rfl) (Nat.le_of_ble_eq_true rfl) (c_ordersCopy isX5_35 isX5_174 (by omega)) (fun s1 hq => ?_)
    obtain ⟨y1, y2, hf6⟩ := hq
    refine r_aload_n dX8_search_114 rfl rfl ?_
    refine s_getI dX8_search_115 fX8_51 lysX8 rfl (show s1 161 4 = nI (x_s0 Xb) by rw [hf6 161 (by omega)]; exact h4) ?_
    refine s_iret dX8_search_118 rfl rfl ?_
    refine ⟨_, rfl, by rw [hRb], ?_, ?_, ?_, ?_, ?_, fun k e1 e2 => by rw [hf6 k (by omega)]; exact hf k e1 e2⟩
    · rw [hRb]
      exact c_R_or hC hiv.1.1 (fun k hk => (hiv.2.2.1 k hk).2.trans (hiv.2.2.1 k hk).1.symm) (c_O_cp hXb (fun m9 hm9 => (x_mn hiv.2.1.1 hm9).2) y1 y2) (fun k e1 e2 => hf6 k (by omega))
    · rw [hRb, hf6 161 (by omega)]; exact h0
    · rw [hf6 167 (by omega)]; exact k5
    · rw [hf6 162 (by omega)]; exact k9
    · rw [hf6 162 (by omega)]; exact k10
  have lp : ∀ f X Xb W md u1, t_iv X0 X Xb W md → c_R X u1 1 → T_W W u1 → u1 161 0 = nI md → u1 161 4 = nI (x_s0 Xb) → c_O Xb u1 174 → u1 167 = s 167 → u1 162 9 = s 162 9 → u1 162 10 = s 162 10 → (∀ k, ¬ (1 ≤ k ∧ k < 42) → ¬ (161 ≤ k ∧ k < 202) → u1 k = s k) → t_lp ten (n - md) X W Xb md = (t_rs X0 n ten) → md ≤ n → n < md + f → s_W G mX8_search 6 0 0 (c_I (fun y9 s1 => y9 = nI (x_s0 (t_rs X0 n ten).1) ∧ c_R (t_rs X0 n ten).1 s1 1 ∧ s1 161 0 = nI (t_rs X0 n ten).2 ∧ s1 167 = s 167 ∧ s1 162 9 = s 162 9 ∧ s1 162 10 = s 162 10 ∧ (∀ k, ¬ (1 ≤ k ∧ k < 42) → ¬ (161 ≤ k ∧ k < 202) → s1 k = s k))) 43 [some (.ref 161), some (.ref 1), some (.int (nI n)), some (.int (nI ten)), some (.int (nI (md + 1)))] [] u1 := by
    intro f
    induction f with
    | zero =>
      intro X Xb W md u1 hiv hC hW h0 h4 hXb k5 k9 k10 hf hX hmn hme
      exact absurd hme (by omega)
    | succ f ih =>
      intro X Xb W md u1 hiv hC hW h0 h4 hXb k5 k9 k10 hf hX hmn hme
      have hz9 := x_s0_bd hiv.2.1
      have hw := hiv.1.1
      have hs := x_sz hw
      have hmd := hiv.2.2.2.2
      refine r_iload dX8_search_43 rfl ?_
      refine r_iload_n dX8_search_45 rfl rfl ?_
      refine n_cgt (tgt := 103) dX8_search_46 (by decide) (by omega) (by omega) (fun c46 => ?_) (fun c46 => ?_)
      · refine fin X Xb W md _ u1 hiv ?_ hC h0 h4 hXb k5 k9 k10 hf
        rw [← hX, show n - md = 0 by omega]
        rfl
      · refine r_aload_n dX8_search_49 rfl rfl ?_
        refine s_getR dX8_search_50 fX8_12 lysX8 rfl ?_
        refine r_aload_n dX8_search_53 rfl rfl ?_
        refine s_V1I mX10_compute dX8_search_54 okX10_compute lX8_44 npX10_compute (layX10 isX10_162) rfl (by decide) (by decide) (by decide) (Nat.le_of_ble_eq_true rfl) (Nat.le_of_ble_eq_true rfl) (c_compute0 ho isX10_162 hC hiv.1 (by rw [k5]; exact hop) (by rw [k9, k10]; exact hH)) (fun x s1 hq => ?_)
        obtain ⟨rfl, ht, -, p5, p9, p10, hf1⟩ := hq
        replace hC := c_R_fr hC hf1 (Or.inl (by omega)) hs.1
        refine r_pop dX8_search_57 rfl ?_
        refine r_aload_n dX8_search_58 rfl rfl ?_
        refine s_getR dX8_search_59 fX8_21 lysX8 rfl ?_
        refine r_aload_n dX8_search_62 rfl rfl ?_
        refine r_aload_n dX8_search_63 rfl rfl ?_
        refine s_getR dX8_search_64 fX8_12 lysX8 rfl ?_
        refine s_V2V mX2_trace dX8_search_67 okX2_trace lX8_63 npX2_trace (layX2 isX2_170) rfl (by decide) (by decide) (by decide) (Nat.le_of_ble_eq_true rfl) (Nat.le_of_ble_eq_true rfl) (c_trace ho isX10_162 isX2_170 hC hiv.1 ht (by omega)) (fun s1 hq => ?_)
        obtain ⟨hpa, hf2⟩ := hq
        replace hC := c_R_fr hC hf2 (Or.inl (by omega)) hs.1
        have hT : ∀ k, ¬ (162 ≤ k ∧ k < 174) → s1 k = u1 k := fun k hk => by rw [hf2 k (by omega), hf1 k (by omega)]
        have r5 : s1 167 = s 167 := by rw [hf2 167 (by omega), p5]; exact k5
        have r9 : s1 162 9 = s 162 9 := by rw [hf2 162 (by omega), p9]; exact k9
        have r10 : s1 162 10 = s 162 10 := by rw [hf2 162 (by omega), p10]; exact k10
        refine r_aload_n dX8_search_70 rfl rfl ?_
        refine r_aload_n dX8_search_71 rfl rfl ?_
        refine r_iload dX8_search_72 rfl ?_
        refine r_iload_n dX8_search_74 rfl rfl ?_
        refine r_isub dX8_search_75 ?_
        refine s_V2V mX8_choose dX8_search_76 okX8_choose lX8_67 npX8_choose lysX8 rfl (by decide) (by decide) (by decide) (Nat.le_of_ble_eq_true rfl) (Nat.le_of_ble_eq_true rfl) (c_tChoose (W := W) (st := md + 1) (ten := ten) (lst := x_s0 Xb) hC hiv.1 hpa (by rw [r5]; exact hop) (by rw [r9, r10]; exact hH) (fun a9 b9 ha9 hb9 => by rw [hT (182 + a9) (by omega)]; exact hW a9 b9 ha9 hb9) hiv.2.2.2.1 (by rw [hT 161 (by omega)]; exact h4) (by omega) (by omega) hten) (fun s1 hq => ?_)
        obtain ⟨hC, hb, j0, j4, j5, j9, j10, hf9⟩ := hq
        cases hbq : t_ch X W (md + 1) ten (x_s0 Xb) 20 with
        | none =>
          refine r_aload_n dX8_search_79 rfl rfl ?_
          refine s_getI dX8_search_80 fX8_71 lysX8 rfl (show s1 161 6 = -1 by rw [hb.1, hbq]; rfl) ?_
          refine r_iconst (v := -1) dX8_search_83 (by decide) ?_
          refine r_icmp_ne (tgt := 90) dX8_search_84 (by decide) (fun c84 => ?_) (fun c84 => ?_)
          · exact absurd rfl c84
          · refine r_goto (tgt := 103) dX8_search_87 (by decide) ?_
            refine fin X Xb W md _ s1 hiv ?_ hC (by rw [j0, hT 161 (by omega)]; exact h0) (by rw [j4, hT 161 (by omega)]; exact h4) (c_O_fr hXb (fun k e1 e2 => by rw [hf9 k (by omega) (by omega) (by omega), hT k (by omega)])) (j5.trans r5) (j9.trans r9) (j10.trans r10) (fun k e1 e2 => by rw [hf9 k (by omega) (by omega) (by omega), hT k (by omega)]; exact hf k e1 e2)
            rw [← hX, show n - md = n - md - 1 + 1 by omega, t_lp_n hbq]
        | some c =>
          obtain ⟨g1, g2, g3, g4, g5, g6, g7⟩ := t_c hiv.1 hbq
          rw [hbq] at hb
          refine r_aload_n dX8_search_79 rfl rfl ?_
          refine s_getI dX8_search_80 fX8_71 lysX8 rfl (show s1 161 6 = nI (c.1 / 5) from hb.1) ?_
          refine r_iconst (v := -1) dX8_search_83 (by decide) ?_
          refine r_icmp_ne (tgt := 90) dX8_search_84 (by decide) (fun c84 => ?_) (fun c84 => ?_)
          · refine r_aload_n dX8_search_90 rfl rfl ?_
            refine r_aload_n dX8_search_91 rfl rfl ?_
            refine r_iload dX8_search_92 rfl ?_
            refine s_V2V mX8_makeChosen dX8_search_94 okX8_makeChosen lX8_74 npX8_makeChosen lysX8 rfl (by decide) (by decide) (by decide) (Nat.le_of_ble_eq_true rfl) (Nat.le_of_ble_eq_true rfl) (c_makeChosen (Xb := Xb) (W := W) (lst := x_s0 Xb) hC hw g1 g2 g3 g4 g5 g7 hb (fun a9 b9 ha9 hb9 => by rw [hf9 (182 + a9) (by omega) (by omega) (by omega), hT (182 + a9) (by omega)]; exact hW a9 b9 ha9 hb9) (by rw [j4, hT 161 (by omega)]; exact h4) (by omega) (c_O_fr hXb (fun k e1 e2 => by rw [hf9 k (by omega) (by omega) (by omega), hT k (by omega)])) (by omega)) (fun s1 hq => ?_)
            obtain ⟨w1, w2, w3, w4, w5, w6⟩ := hq
            refine n_inc dX8_search_97 rfl (n_i1 _) (by decide) rfl ?_
            refine r_goto (tgt := 43) dX8_search_100 (by decide) ?_
            have hiv2 := t_iv_s hiv hbq (by omega)
            refine ih (t_X X c.1) _ _ (md + 1) s1 hiv2 w1 w2 w3 ?_ w5 (by rw [w6 167 (by omega) (by omega) (by omega)]; exact j5.trans r5) (by rw [w6 162 (by omega) (by omega) (by omega)]; exact j9.trans r9) (by rw [w6 162 (by omega) (by omega) (by omega)]; exact j10.trans r10) (fun k e1 e2 => by rw [w6 k (by omega) (by omega) (by omega), hf9 k (by omega) (by omega) (by omega), hT k (by omega)]; exact hf k e1 e2) ?_ (by omega) (by omega)
            · rw [w4]
              by_cases e : c.2 < x_s0 Xb
              · rw [if_pos e, if_pos e, g6]
              · rw [if_neg e, if_neg e]
            · rw [← hX, show n - md = n - (md + 1) + 1 by omega, t_lp_s hbq]
          · exact absurd c84 (nI_m1 (by omega))
  refine r_aload_n dX8_search_0 rfl rfl ?_
  refine s_V0V mX8_forgetSwaps dX8_search_1 okX8_forgetSwaps lX8_37 npX8_forgetSwaps lysX8 rfl (by decide) (by decide) (by decide) (Nat.le_of_ble_eq_true rfl) (Nat.le_of_ble_eq_true rfl) c_forgetSwaps (fun s1 hq => ?_)
  obtain ⟨hW, hf1⟩ := hq
  refine r_aload_n dX8_search_4 rfl rfl ?_
  refine n_const 0 dX8_search_5 (by decide) ?_
  refine a_put dX8_search_6 gX8_40 lysX8 rfl rfl rfl (fun s2 hs2 hf2 => ?_)
  refine r_aload_n dX8_search_9 rfl rfl ?_
  refine s_getR dX8_search_10 fX8_12 lysX8 rfl ?_
  refine r_aload_n dX8_search_13 rfl rfl ?_
  refine s_V1I mX10_compute dX8_search_14 okX10_compute lX8_44 npX10_compute (layX10 isX10_162) rfl (by decide) (by decide) (by decide) (Nat.le_of_ble_eq_true rfl) (Nat.le_of_ble_eq_true rfl) (c_compute0 ho isX10_162 (c_R_fr (c_R_fr hC0 hf1 (Or.inl (by omega)) hs.1) hf2 (Or.inl (by omega)) hs.1) hg (fun k hk => by rw [hf2 (162 + 5) (by omega), hf1 (162 + 5) (by omega)]; exact hop k hk) (by rw [hf2 162 (by omega), hf1 162 (by omega)]; exact hH)) (fun x s1 hq => ?_)
  obtain ⟨rfl, ht, p6, p5, p9, p10, hf3⟩ := hq
  refine r_pop dX8_search_17 rfl ?_
  refine r_aload_n dX8_search_18 rfl rfl ?_
  refine r_aload_n dX8_search_19 rfl rfl ?_
  refine s_getR dX8_search_20 fX8_12 lysX8 rfl ?_
  refine s_getI dX8_search_23 fX8_48 (layX10 isX10_162) rfl p6 ?_
  refine a_put dX8_search_26 gX8_51 lysX8 rfl rfl rfl (fun s4 hs4 hf4 => ?_)
  refine r_aload_n dX8_search_29 rfl rfl ?_
  refine s_getR dX8_search_30 fX8_28 lysX8 rfl ?_
  refine r_aload_n dX8_search_33 rfl rfl ?_
  refine s_getR dX8_search_34 fX8_54 (layX7 ho) rfl ?_
  refine s_V1V mX5_copyFrom dX8_search_37 okX5_copyFrom lX8_59 npX5_copyFrom (layX5 isX5_174) rfl (by decide) (by decide) (by decide) (Nat.le_of_ble_eq_true rfl) (Nat.le_of_ble_eq_true rfl) (c_ordersCopy isX5_174 isX5_35 (by omega)) (fun s1 hq => ?_)
  obtain ⟨y1, y2, hf5⟩ := hq
  refine n_const 1 dX8_search_40 (by decide) ?_
  refine r_istore dX8_search_41 (by decide) rfl ?_
  have hall : ∀ k, ¬ (161 ≤ k ∧ k < 202) → s1 k = s k := fun k hk => by rw [hf5 k (by omega), hf4 k (by omega), hf3 k (by omega), hf2 k (by omega), hf1 k (by omega)]
  refine lp (n + 1) X0 X0 (fun _ _ => 0) 0 s1 (t_iv_0 hg) (c_R_cg hC0 (fun k e1 e2 => hall k (by omega)) hs.1) (fun a9 b9 ha9 hb9 => ?_) ?_ ?_ ?_ ?_ ?_ ?_ (fun k e1 e2 => hall k e2) ?_ (by omega) (by omega)
  · rw [hf5 (182 + a9) (by omega), hf4 (182 + a9) (by omega), hf3 (182 + a9) (by omega), hf2 (182 + a9) (by omega)]; exact hW a9 b9 ha9 hb9
  · rw [hf5 161 (by omega), hs4, pk_un (by decide), hf3 161 (by omega), hs2, pk_us]
  · rw [hf5 161 (by omega), hs4, pk_us]
  · refine c_O_cp (s := s4) (q1 := 35) ?_ (fun m9 hm9 => (x_mn hg.1 hm9).2) y1 y2
    exact c_O_fr (c_R_O hC0) (fun k e1 e2 => by rw [hf4 k (by omega), hf3 k (by omega), hf2 k (by omega), hf1 k (by omega)])
  · rw [hf5 167 (by omega), hf4 167 (by omega), p5, hf2 (162 + 5) (by omega), hf1 (162 + 5) (by omega)]
  · rw [hf5 162 (by omega), hf4 162 (by omega), p9, hf2 162 (by omega), hf1 162 (by omega)]
  · rw [hf5 162 (by omega), hf4 162 (by omega), p10, hf2 162 (by omega), hf1 162 (by omega)]
  · rfl
theorem c_Z_tb {z : z_T} {X : x_T} {n : Nat} {s s1 : s_T} (h : c_Z z s) (hz : z_wf z) (hX : c_R X s1 1) (h0 : s1 161 0 = nI n) (h5 : s1 167 = s 167) (h9 : s1 162 9 = s 162 9) (h10 : s1 162 10 = s 162 10) (hf : ∀ k, ¬ (1 ≤ k ∧ k < 42) → ¬ (161 ≤ k ∧ k < 202) → s1 k = s k) : c_Z (z_tb z X n) s1 := by
  obtain ⟨a1, a2, a3, a4, a5, a6, a7, a8, a9, a10, a11, a12⟩ := h
  refine ⟨hX, fun q => c_R_cg (a2 q) (fun k h1 h2 => hf k (by omega) (by omega)) (hz.2.1 q).1.1, ?_, fun h hh => ?_, ?_, ?_, ?_, ?_, ?_, ?_, ?_, h0⟩
  · rw [hf 0 (by omega) (by omega)]; exact a3
  · rcases hh with rfl | rfl | rfl
    · rw [hf (124 + 5) (by omega) (by omega), hf 124 (by omega) (by omega)]; exact a4 124 (Or.inl rfl)
    · rw [hf (132 + 5) (by omega) (by omega), hf 132 (by omega) (by omega)]; exact a4 132 (Or.inr (Or.inl rfl))
    · rw [h5, h9, h10]; exact a4 162 (Or.inr (Or.inr rfl))
  · rw [hf 152 (by omega) (by omega)]; exact a5
  · rw [hf 206 (by omega) (by omega)]; exact a6
  · rw [hf 207 (by omega) (by omega)]; exact a7
  · rw [hf 210 (by omega) (by omega)]; exact a8
  · rw [hf 211 (by omega) (by omega)]; exact a9
  · rw [hf 150 (by omega) (by omega)]; exact a10
  · rw [hf 151 (by omega) (by omega)]; exact a11
set_option maxRecDepth 20000 in
set_option maxHeartbeats 1000000 in
theorem c_tabu {G : q_G} {s : s_T} {z : z_T} (hz : z_wf z) (hZ : c_Z z s) {n t : Int32} : s_W G mX11_tabu 8 2 12 (c_P [q_IA] (A_tabu z n t) s) 0 (q_ent mX11_tabu [.ref 0, .int n, .int t]) [] s := by
  show s_W G mX11_tabu 8 2 12 _ 0 [some (.ref 0), some (.int n), some (.int t)] [] s
  have hw := hz.1.1
  have hs := x_sz hw
  have hC := hZ.1
  have hf : s_fr 0 212 s s := s_fr_rf
  have ho : isX7 1 := Or.inl rfl
  refine r_iload_n dX11_tabu_0 rfl rfl ?_
  refine n_bip 20 dX11_tabu_1 (by decide) ?_
  refine s_S2I mX11_within dX11_tabu_3 okX11_within lX11_138 npX11_within (by decide) (by decide) (by decide) (Nat.le_of_ble_eq_true rfl) (Nat.le_of_ble_eq_true rfl) (c_within (by decide)) (fun x s1 hq => ?_)
  obtain ⟨rfl, rfl⟩ := hq
  refine b_ifeq (tgt := 18) dX11_tabu_6 (by decide) (fun c6 => ?_) (fun c6 => ?_)
  · refine s_throwSW dX11_tabu_18 dX11_tabu_21 dX11_tabu_22 dX11_tabu_25 dX11_tabu_28 thrX11_333_96 rfl (by decide) (by decide) (by decide) (Nat.le_of_ble_eq_true rfl) ?_
    exact c_P_e 1 (by unfold A_tabu; simp [*]) (by decide) rfl hZ hf
  · obtain ⟨n, rfl, hn0, hn, hn2⟩ := iIn_n c6
    have en := iN_n hn2
    refine r_iload_n dX11_tabu_9 rfl rfl ?_
    refine n_bip 9 dX11_tabu_10 (by decide) ?_
    refine s_S2I mX11_within dX11_tabu_12 okX11_within lX11_138 npX11_within (by decide) (by decide) (by decide) (Nat.le_of_ble_eq_true rfl) (Nat.le_of_ble_eq_true rfl) (c_within (by decide)) (fun x s1 hq => ?_)
    obtain ⟨rfl, rfl⟩ := hq
    refine b_ifne (tgt := 29) dX11_tabu_15 (by decide) (fun c15 => ?_) (fun c15 => ?_)
    · obtain ⟨t, rfl, ht0, ht, ht2⟩ := iIn_n c15
      have et := iN_n ht2
      refine r_aload_n dX11_tabu_29 rfl rfl ?_
      refine s_getR dX11_tabu_30 fX11_63 lysX11 rfl ?_
      refine r_aload_n dX11_tabu_33 rfl rfl ?_
      refine s_getR dX11_tabu_34 fX11_10 lysX11 rfl ?_
      refine r_iload_n dX11_tabu_37 rfl rfl ?_
      refine r_iload_n dX11_tabu_38 rfl rfl ?_
      refine s_V3I mX8_search dX11_tabu_39 okX8_search lX11_335 npX8_search lysX8 rfl (by decide) (by decide) (by decide) (Nat.le_of_ble_eq_true rfl) (Nat.le_of_ble_eq_true rfl) (c_search hC (z_gd hz) (c_Q_h (c_Z_Q hZ) (Or.inr (Or.inr rfl))).1 (c_Q_h (c_Z_Q hZ) (Or.inr (Or.inr rfl))).2 hn ht) (fun x s1 hq => ?_)
      obtain ⟨rfl, r1, r2, r3, r4, r5, r6⟩ := hq
      replace hZ := c_Z_tb hZ hz r1 r2 r3 r4 r5 r6
      replace hf := s_fr_tr hf (show s_fr 0 212 _ s1 from fun k hk => r6 k (by omega) (by omega))
      refine s_iret dX11_tabu_42 rfl rfl ?_
      exact c_P_s (by unfold A_tabu; rw [c6, c15, Bool.and_self, if_pos rfl, en, et]) hZ hf
    · refine s_throwSW dX11_tabu_18 dX11_tabu_21 dX11_tabu_22 dX11_tabu_25 dX11_tabu_28 thrX11_333_96 rfl (by decide) (by decide) (by decide) (Nat.le_of_ble_eq_true rfl) ?_
      exact c_P_e 1 (by unfold A_tabu; simp [*]) (by decide) rfl hZ hf
end
