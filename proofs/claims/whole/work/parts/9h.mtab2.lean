section
/-! ===== the reference: tabu ===== -/
def U_W (W : Nat → Nat → Nat) (s : s_T) : Prop := ∀ a b, a < 20 → b < 20 → s 227 (20 * a + b) = nI (W a b)
set_option maxRecDepth 20000 in
set_option maxHeartbeats 1000000 in
theorem m_tabu {G : q_G} {s : s_T} {z : z_T} (hz : z_wf z) (hM : m_R (z 0) s) (hO : m_O z s) {n ten : Int32} : s_W G mX12_tabu 12 0 0 (m_P (A_tabu z n ten) s) 0 (q_ent mX12_tabu [.ref 212, .int n, .int ten]) [] s := by
  show s_W G mX12_tabu 12 0 0 _ 0 [some (.ref 212), some (.int n), some (.int ten), none, none, none, none, none, none, none, none, none, none, none] [] s
  have hw := hz.1.1
  have hs := x_sz hw
  have hf : s_fr 212 234 s s := s_fr_rf
  refine r_aload_n dX12_tabu_0 rfl rfl ?_
  refine r_iload_n dX12_tabu_1 rfl rfl ?_
  refine r_i2l dX12_tabu_2 rfl ?_
  refine r_lconst (v := (nI 0).toInt64) dX12_tabu_3 (by decide) ?_
  refine r_ldc2 dX12_tabu_4 kL_262 ?_
  refine s_S3I mX12_in dX12_tabu_7 okX12_in lX12_82 npX12_in (by decide) (by decide) (by decide) (Nat.le_of_ble_eq_true rfl) (Nat.le_of_ble_eq_true rfl) (c_in2 (by decide) (by decide)) (fun x s1 hq => ?_)
  obtain ⟨e9, rfl⟩ := hq
  replace e9 := e9.symm
  subst e9
  refine b_ifeq (tgt := 29) dX12_tabu_10 (by decide) (fun c10 => ?_) (fun c10 => ?_)
  · refine n_const 1 dX12_tabu_29 (by decide) ?_
    refine a_put dX12_tabu_30 gX12_79 lysX12 rfl rfl rfl (fun sB hs1 hf1 => ?_)
    have h3 := (congrFun hs1 3).trans pk_us
    have hM := m_R_fr hM hf1 (Or.inr (by omega))
    have hO := m_O_eq hO (m_eq_put hs1 hf1 (by decide))
    have hf := s_fr_tr hf (s_fr_w (lo' := 212) (hi' := 234) hf1 (by omega) (by omega))
    refine r_aload_n dX12_tabu_33 rfl rfl ?_
    refine s_getI dX12_tabu_34 fX12_79 lysX12 rfl h3 ?_
    refine n_ifle (tgt := 42) dX12_tabu_37 (by decide) (by omega) (fun c37 => ?_) (fun c37 => ?_)
    · exact absurd c37 (by decide)
    · refine n_const 0 dX12_tabu_40 (by decide) ?_
      refine s_iret dX12_tabu_41 rfl rfl ?_
      first
        | exact m_P_e (by unfold A_tabu; simp [*]) (by decide) h3 hM hO hf
        | exact m_P_s (by unfold A_tabu; simp [*]) h3 hM hO hf
        | exact m_P_x (by unfold A_tabu; simp [*]) h3 hM hO hf
  · obtain ⟨n, rfl, hn0, hn, hn2⟩ := iIn_n c10
    have en := iN_n hn2
    refine r_iload_n dX12_tabu_13 rfl rfl ?_
    refine r_i2l dX12_tabu_14 rfl ?_
    refine r_lconst (v := (nI 0).toInt64) dX12_tabu_15 (by decide) ?_
    refine r_ldc2 dX12_tabu_16 kL_92 ?_
    refine s_S3I mX12_in dX12_tabu_19 okX12_in lX12_82 npX12_in (by decide) (by decide) (by decide) (Nat.le_of_ble_eq_true rfl) (Nat.le_of_ble_eq_true rfl) (c_in2 (by decide) (by decide)) (fun x s1 hq => ?_)
    obtain ⟨e9, rfl⟩ := hq
    replace e9 := e9.symm
    subst e9
    refine b_ifeq (tgt := 29) dX12_tabu_22 (by decide) (fun c22 => ?_) (fun c22 => ?_)
    · refine n_const 1 dX12_tabu_29 (by decide) ?_
      refine a_put dX12_tabu_30 gX12_79 lysX12 rfl rfl rfl (fun sB hs1 hf1 => ?_)
      have h3 := (congrFun hs1 3).trans pk_us
      have hM := m_R_fr hM hf1 (Or.inr (by omega))
      have hO := m_O_eq hO (m_eq_put hs1 hf1 (by decide))
      have hf := s_fr_tr hf (s_fr_w (lo' := 212) (hi' := 234) hf1 (by omega) (by omega))
      refine r_aload_n dX12_tabu_33 rfl rfl ?_
      refine s_getI dX12_tabu_34 fX12_79 lysX12 rfl h3 ?_
      refine n_ifle (tgt := 42) dX12_tabu_37 (by decide) (by omega) (fun c37 => ?_) (fun c37 => ?_)
      · exact absurd c37 (by decide)
      · refine n_const 0 dX12_tabu_40 (by decide) ?_
        refine s_iret dX12_tabu_41 rfl rfl ?_
        first
          | exact m_P_e (by unfold A_tabu; simp [*]) (by decide) h3 hM hO hf
          | exact m_P_s (by unfold A_tabu; simp [*]) h3 hM hO hf
          | exact m_P_x (by unfold A_tabu; simp [*]) h3 hM hO hf
    · obtain ⟨ten, rfl, hten0, hten, hten2⟩ := iIn_n c22
      have eten := iN_n hten2
      refine n_const 0 dX12_tabu_25 (by decide) ?_
      refine r_goto (tgt := 30) dX12_tabu_26 (by decide) ?_
      refine a_put dX12_tabu_30 gX12_79 lysX12 rfl rfl rfl (fun sB hs1 hf1 => ?_)
      have h3 := (congrFun hs1 3).trans pk_us
      have hM := m_R_fr hM hf1 (Or.inr (by omega))
      have hO := m_O_eq hO (m_eq_put hs1 hf1 (by decide))
      have hf := s_fr_tr hf (s_fr_w (lo' := 212) (hi' := 234) hf1 (by omega) (by omega))
      refine r_aload_n dX12_tabu_33 rfl rfl ?_
      refine s_getI dX12_tabu_34 fX12_79 lysX12 rfl h3 ?_
      refine n_ifle (tgt := 42) dX12_tabu_37 (by decide) (by omega) (fun c37 => ?_) (fun c37 => ?_)
      · refine n_const 0 dX12_tabu_42 (by decide) ?_
        refine r_istore_n dX12_tabu_43 rfl (by decide) rfl ?_
        have hop9 := hO.2.2.2.2.2.2.2.2.2.1
        obtain ⟨hu, hu9, hH9⟩ := hO.2.2.2.2.2.2.2.2.2.2.1
        have fin : ∀ X Xb W md (L3 : Option Value) (L4 : Option Value) (L5 : Option Value) (L6 : Option Value) (L7 : Option Value) (L8 : Option Value) (L9 : Option Value) (L10 : Option Value) (L11 : Option Value) (L12 : Option Value) (L13 : Option Value) u1, t_iv (z 0) X Xb W md → (t_rs (z 0) n ten) = (Xb, md) → m_R X u1 → U_W W u1 → u1 212 10 = nI md → (∀ k, k < 20 → u1 228 k = nI (Xb (183 + k))) → e_F sB u1 → s_W G mX12_tabu 12 0 0 (m_P (A_tabu z (nI n) (nI ten)) s) 374 [some (.ref 212), some (.int (nI n)), some (.int (nI ten)), L3, L4, L5, L6, L7, L8, L9, L10, L11, L12, L13] [] u1 := by
          intro X Xb W md L3 L4 L5 L6 L7 L8 L9 L10 L11 L12 L13 u1 hiv hR hM hW h10 hXb hF
          refine r_aload_n dX12_tabu_374 rfl rfl ?_
          refine s_getR dX12_tabu_375 fX12_61 lysX12 rfl ?_
          refine n_const 0 dX12_tabu_378 (by decide) ?_
          refine r_aload_n dX12_tabu_379 rfl rfl ?_
          refine s_getR dX12_tabu_380 fX12_9 lysX12 rfl ?_
          refine n_sip 183 dX12_tabu_383 (by decide) ?_
          refine n_bip 20 dX12_tabu_386 (by decide) ?_
          refine n_copy dX12_tabu_388 kwC_X12 (by decide) (Nat.le_of_ble_eq_true rfl) rfl rfl (by omega) (by omega) (by decide) (by decide) (fun s7 hs7 hf7 => ?_)
          have hM7 : m_R Xb s7 := fun k hk => by
            rw [hs7 k]
            by_cases e : 183 ≤ k ∧ k < 183 + 20
            · rw [if_pos e, Nat.zero_add, hXb (k - 183) (by omega), show 183 + (k - 183) = k by omega]
            · rw [if_neg e, hM k hk, (hiv.2.2.1 k (by omega)).1, (hiv.2.2.1 k (by omega)).2]
          have hF7 := e_F_tr hF (e_F_fr hf7 (by omega))
          refine r_aload_n dX12_tabu_391 rfl rfl ?_
          refine s_V0I mX12_makespanNow dX12_tabu_392 okX12_makespanNow lX12_188 npX12_makespanNow lysX12 rfl (by decide) (by decide) (by decide) (Nat.le_of_ble_eq_true rfl) (Nat.le_of_ble_eq_true rfl) (c_makespanNow0 (X := Xb) hM7 (m_op_e hop9 hF7) ⟨hu, hu9, m_H_e hH9 hF7⟩ hiv.2.1) (fun x s1 hq => ?_)
          obtain ⟨rfl, -, hf8⟩ := hq
          refine s_iret dX12_tabu_395 rfl rfl ?_
          have hF8 := e_F_tr hF7 (e_F_fr hf8 (by omega))
          refine m_P_i (b := (0, nI (x_s0 Xb), z_tb z Xb md)) ?_ (fun _ => rfl) ((hF8.1 3 (by omega) (by omega)).trans h3) (m_R_fr hM7 hf8 (Or.inl (by omega))) (m_O_tb hO hF8 ?_) (s_fr_tr hf (fun k hk => hF8.2 k (by omega) (by omega) (by omega) (by omega) (by omega) (by omega) (by omega) (by omega)))
          · unfold A_tabu
            rw [c10, c22, Bool.and_self, if_pos rfl, en, eten, hR]
          · rw [hf8 212 (by omega), hf7 212 (by omega)]; exact h10
        have ol : ∀ f X Xb W md (L5 : Option Value) (L6 : Option Value) (L7 : Option Value) (L8 : Option Value) (L9 : Option Value) (L10 : Option Value) (L11 : Option Value) (L12 : Option Value) (L13 : Option Value) u1, t_iv (z 0) X Xb W md → m_R X u1 → U_W W u1 → u1 212 10 = nI md → (∀ k, k < 20 → u1 228 k = nI (Xb (183 + k))) → e_F sB u1 → t_lp ten (n - md) X W Xb md = (t_rs (z 0) n ten) → md ≤ n → n < md + f → s_W G mX12_tabu 12 0 0 (m_P (A_tabu z (nI n) (nI ten)) s) 94 [some (.ref 212), some (.int (nI n)), some (.int (nI ten)), some (.int (nI (x_s0 Xb))), some (.int (nI 1)), L5, L6, L7, L8, L9, L10, L11, L12, L13] [] u1 := by
          intro f
          induction f with
          | zero =>
            intro X Xb W md L5 L6 L7 L8 L9 L10 L11 L12 L13 u1 hiv hM hW h10 hXb hF hX hmn hme
            exact absurd hme (by omega)
          | succ f ih =>
            intro X Xb W md L5 L6 L7 L8 L9 L10 L11 L12 L13 u1 hiv hM hW h10 hXb hF hX hmn hme
            have hw := hiv.1.1
            have hs9 := x_sz hw
            have hz9 := x_s0_bd hiv.2.1
            have hmd := hiv.2.2.2.2
            refine r_iload dX12_tabu_94 rfl ?_
            refine n_ifeq (tgt := 374) dX12_tabu_96 (by decide) (by omega) (fun c96 => ?_) (fun c96 => ?_)
            · exact absurd c96 (by decide)
            · refine r_aload_n dX12_tabu_99 rfl rfl ?_
              refine s_getI dX12_tabu_100 fX12_270 lysX12 rfl h10 ?_
              refine r_iload_n dX12_tabu_103 rfl rfl ?_
              refine n_cge (tgt := 374) dX12_tabu_104 (by decide) (by omega) (by omega) (fun c104 => ?_) (fun c104 => ?_)
              · refine fin X Xb W md _ _ _ _ _ _ _ _ _ _ _ u1 hiv ?_ hM hW h10 hXb hF
                rw [← hX, show n - md = 0 by omega]
                rfl
              · refine r_aload_n dX12_tabu_107 rfl rfl ?_
                refine s_getI dX12_tabu_108 fX12_270 lysX12 rfl h10 ?_
                refine n_const 1 dX12_tabu_111 (by decide) ?_
                refine n_add dX12_tabu_112 ?_
                refine r_istore dX12_tabu_113 (by decide) rfl ?_
                refine r_aload_n dX12_tabu_115 rfl rfl ?_
                refine s_V0V mX12_findSwaps dX12_tabu_116 okX12_findSwaps lX12_273 npX12_findSwaps lysX12 rfl (by decide) (by decide) (by decide) (Nat.le_of_ble_eq_true rfl) (Nat.le_of_ble_eq_true rfl) (c_findSwaps hM (m_op_e hop9 hF) ⟨hu, hu9, m_H_e hH9 hF⟩ hiv.1) (fun s1 hq => ?_)
                obtain ⟨hsws, hM, r1, r2⟩ := hq
                replace hF : e_F sB s1 := e_F_tr hF ⟨fun j a b => r1 j b, fun k a b c d e f g h => r2 k a c d e h⟩
                replace hW : U_W W s1 := fun a9 b9 ha9 hb9 => by rw [r2 227 (by omega) (by omega) (by omega) (by omega) (by omega)]; exact hW a9 b9 ha9 hb9
                replace h10 := (r1 10 (by omega)).trans h10
                replace hXb : ∀ k, k < 20 → s1 228 k = nI (Xb (183 + k)) := fun k hk => by rw [r2 228 (by omega) (by omega) (by omega) (by omega) (by omega)]; exact hXb k hk
                refine r_iconst (v := -1) dX12_tabu_119 (by decide) ?_
                refine r_istore dX12_tabu_120 (by decide) rfl ?_
                refine n_const 0 dX12_tabu_122 (by decide) ?_
                refine r_istore dX12_tabu_123 (by decide) rfl ?_
                refine n_const 0 dX12_tabu_125 (by decide) ?_
                refine r_istore dX12_tabu_126 (by decide) rfl ?_
                have l2 : ∀ f2 i bn (L9 : Option Value) (L10 : Option Value) (L11 : Option Value) (L12 : Option Value) (L13 : Option Value) u1, (∀ c, t_ch X W (md + 1) ten (x_s0 Xb) i = some c → bn = c.2) → bn ≤ 1400 → m_R X u1 → U_W W u1 → u1 212 10 = nI md → (∀ k, k < 20 → u1 228 k = nI (Xb (183 + k))) → e_F sB u1 → (∀ m p, m < 4 → p < 5 → u1 229 (5 * m + p) = bI (t_sw X m p)) → i ≤ 20 → 20 < i + f2 → s_W G mX12_tabu 12 0 0 (m_P (A_tabu z (nI n) (nI ten)) s) 128 [some (.ref 212), some (.int (nI n)), some (.int (nI ten)), some (.int (nI (x_s0 Xb))), some (.int (nI 1)), some (.int (nI (md + 1))), some (.int (oI ((t_ch X W (md + 1) ten (x_s0 Xb) i).map Prod.fst))), some (.int (nI bn)), some (.int (nI i)), L9, L10, L11, L12, L13] [] u1 := by
                  intro f2
                  induction f2 with
                  | zero =>
                    intro i bn L9 L10 L11 L12 L13 u1 hbn hbn2 hM hW h10 hXb hF hsws hi hme
                    exact absurd hme (by omega)
                  | succ f2 ih2 =>
                    intro i bn L9 L10 L11 L12 L13 u1 hbn hbn2 hM hW h10 hXb hF hsws hi hme
                    cases hbq : t_ch X W (md + 1) ten (x_s0 Xb) i with
                    | none =>
                      show s_W G mX12_tabu 12 0 0 _ 128 [some (.ref 212), some (.int (nI n)), some (.int (nI ten)), some (.int (nI (x_s0 Xb))), some (.int (nI 1)), some (.int (nI (md + 1))), some (.int (-1)), some (.int (nI bn)), some (.int (nI i)), L9, L10, L11, L12, L13] [] u1
                      refine r_iload dX12_tabu_128 rfl ?_
                      refine n_bip 20 dX12_tabu_130 (by decide) ?_
                      refine n_cge (tgt := 272) dX12_tabu_132 (by decide) (by omega) (by omega) (fun c132 => ?_) (fun c132 => ?_)
                      · have e9 : i = 20 := by omega
                        subst e9
                        refine r_iload dX12_tabu_272 rfl ?_
                        refine r_iconst (v := -1) dX12_tabu_274 (by decide) ?_
                        refine r_icmp_eq (tgt := 282) dX12_tabu_275 (by decide) (fun c275 => ?_) (fun c275 => ?_)
                        · refine n_const 0 dX12_tabu_282 (by decide) ?_
                          refine r_istore dX12_tabu_283 (by decide) rfl ?_
                          refine r_iload dX12_tabu_285 rfl ?_
                          refine n_ifeq (tgt := 371) dX12_tabu_287 (by decide) (by omega) (fun c287 => ?_) (fun c287 => ?_)
                          · refine r_goto (tgt := 94) dX12_tabu_371 (by decide) ?_
                            refine r_iload dX12_tabu_94 rfl ?_
                            refine n_ifeq (tgt := 374) dX12_tabu_96 (by decide) (by omega) (fun c96 => ?_) (fun c96 => ?_)
                            · refine fin X Xb W md _ _ _ _ _ _ _ _ _ _ _ u1 hiv ?_ hM hW h10 hXb hF
                              rw [← hX, show n - md = n - md - 1 + 1 by omega, t_lp_n hbq]
                            · exact absurd c96 (by decide)
                          · exact absurd c287 (by decide)
                        · exact absurd rfl c275
                      · by_cases hsw : t_sw X (i / 5) (i % 5) = true
                        · have hsp := ((t_sw_i hiv.1).mp hsw).1
                          have hm5 := (x_mn hw (show i / 5 < 4 by omega)).2
                          have hod1 := (x_od hw (show i / 5 < 4 by omega) (p := i % 5) (by omega)).1
                          have hod2 := (x_od hw (show i / 5 < 4 by omega) hsp).1
                          have hpr := x_sw_pr hw (show i / 5 < 4 by omega) hsp
                          have hw2 := x_pr_wf hw (show i / 5 < 4 by omega) hpr
                          have hWb := hiv.2.2.2.1 (X (183 + 5 * (i / 5) + i % 5)) (X (183 + 5 * (i / 5) + (i % 5 + 1)))
                          cases hv : x_sp (x_sw X (i / 5) (i % 5)) n0 none 0 with
                          | none =>
                            refine r_aload_n dX12_tabu_135 rfl rfl ?_
                            refine s_getR dX12_tabu_136 fX12_64 lysX12 rfl ?_
                            refine r_iload dX12_tabu_139 rfl ?_
                            refine a_zld dX12_tabu_141 rfl (by omega) (by decide) (show u1 229 i = bI (t_sw X (i / 5) (i % 5)) by rw [← hsws (i / 5) (i % 5) (by omega) (by omega), show 5 * (i / 5) + i % 5 = i by omega]) ?_
                            refine b_ifeq (tgt := 266) dX12_tabu_142 (by decide) (fun c142 => ?_) (fun c142 => ?_)
                            · exact absurd c142 (by rw [hsw]; exact fun z9 => by cases z9)
                            · refine r_iload dX12_tabu_145 rfl ?_
                              refine n_const 5 dX12_tabu_147 (by decide) ?_
                              refine n_div dX12_tabu_148 (by decide) (by omega) (by omega) ?_
                              refine r_istore dX12_tabu_149 (by decide) rfl ?_
                              refine r_iload dX12_tabu_151 rfl ?_
                              refine n_const 5 dX12_tabu_153 (by decide) ?_
                              refine n_rem dX12_tabu_154 (by decide) (by omega) (by omega) ?_
                              refine r_istore dX12_tabu_155 (by decide) rfl ?_
                              refine r_aload_n dX12_tabu_157 rfl rfl ?_
                              refine s_getR dX12_tabu_158 fX12_58 lysX12 rfl ?_
                              refine n_bip 20 dX12_tabu_161 (by decide) ?_
                              refine r_aload_n dX12_tabu_163 rfl rfl ?_
                              refine r_iload dX12_tabu_164 rfl ?_
                              refine r_iload dX12_tabu_166 rfl ?_
                              refine s_V2I mX12_ordered dX12_tabu_168 okX12_ordered lX12_142 npX12_ordered lysX12 rfl (by decide) (by decide) (by decide) (Nat.le_of_ble_eq_true rfl) (Nat.le_of_ble_eq_true rfl) (c_ordered hM (by omega) (by omega)) (fun x s1 hq => ?_)
                              obtain ⟨e9, rfl⟩ := hq
                              replace e9 := e9.symm
                              subst e9
                              refine n_mul dX12_tabu_171 ?_
                              refine r_aload_n dX12_tabu_172 rfl rfl ?_
                              refine r_iload dX12_tabu_173 rfl ?_
                              refine r_iload dX12_tabu_175 rfl ?_
                              refine n_const 1 dX12_tabu_177 (by decide) ?_
                              refine n_add dX12_tabu_178 ?_
                              refine s_V2I mX12_ordered dX12_tabu_179 okX12_ordered lX12_142 npX12_ordered lysX12 rfl (by decide) (by decide) (by decide) (Nat.le_of_ble_eq_true rfl) (Nat.le_of_ble_eq_true rfl) (c_ordered hM (by omega) (by omega)) (fun x s1 hq => ?_)
                              obtain ⟨e9, rfl⟩ := hq
                              replace e9 := e9.symm
                              subst e9
                              refine n_add dX12_tabu_182 ?_
                              refine a_ld dX12_tabu_183 rfl (by omega) (by decide) (hW (X (183 + 5 * (i / 5) + i % 5)) (X (183 + 5 * (i / 5) + (i % 5 + 1))) (by omega) (by omega)) ?_
                              refine r_istore dX12_tabu_184 (by decide) rfl ?_
                              refine r_aload_n dX12_tabu_186 rfl rfl ?_
                              refine r_iload dX12_tabu_187 rfl ?_
                              refine r_iload dX12_tabu_189 rfl ?_
                              refine s_V2V mX12_exchange dX12_tabu_191 okX12_exchange lX12_221 npX12_exchange lysX12 rfl (by decide) (by decide) (by decide) (Nat.le_of_ble_eq_true rfl) (Nat.le_of_ble_eq_true rfl) (c_mExchange hM (by omega) (by omega)) (fun s1 hq => ?_)
                              obtain ⟨hM4, hf4⟩ := hq
                              refine r_aload_n dX12_tabu_194 rfl rfl ?_
                              refine s_V0I mX12_makespanNow dX12_tabu_195 okX12_makespanNow lX12_188 npX12_makespanNow lysX12 rfl (by decide) (by decide) (by decide) (Nat.le_of_ble_eq_true rfl) (Nat.le_of_ble_eq_true rfl) (c_makespanNow hM4 (m_op_e hop9 (e_F_tr hF (e_F_fr hf4 (by omega)))) (m_H_e hH9 (e_F_tr hF (e_F_fr hf4 (by omega)))) hw2 hu9 (fun q z => by cases z)) (fun x s1 hq => ?_)
                              obtain ⟨K9, r9, t9, rk9, e9, -, -, -, -, hf5⟩ := hq
                              rw [x_sp_n (hu := hu) (hu' := 0) hw2, hv] at e9
                              have e9 : x = -1 := e9
                              subst e9
                              have hM5 := m_R_fr hM4 hf5 (Or.inl (by omega))
                              refine r_istore dX12_tabu_198 (by decide) rfl ?_
                              refine r_aload_n dX12_tabu_200 rfl rfl ?_
                              refine r_iload dX12_tabu_201 rfl ?_
                              refine r_iload dX12_tabu_203 rfl ?_
                              refine s_V2V mX12_exchange dX12_tabu_205 okX12_exchange lX12_221 npX12_exchange lysX12 rfl (by decide) (by decide) (by decide) (Nat.le_of_ble_eq_true rfl) (Nat.le_of_ble_eq_true rfl) (c_mExchange hM5 (by omega) (by omega)) (fun s1 hq => ?_)
                              obtain ⟨hM6, hf6⟩ := hq
                              rw [x_sw_sw] at hM6
                              have hW6 : U_W W s1 := (fun a9 b9 ha9 hb9 => by rw [hf6 227 (by omega), hf5 227 (by omega), hf4 227 (by omega)]; exact hW a9 b9 ha9 hb9)
                              have h106 : s1 212 10 = nI md := by rw [hf6 212 (by omega), hf5 212 (by omega), hf4 212 (by omega)]; exact h10
                              have hXb6 : ∀ k, k < 20 → s1 228 k = nI (Xb (183 + k)) := fun k hk => by rw [hf6 228 (by omega), hf5 228 (by omega), hf4 228 (by omega)]; exact hXb k hk
                              have hF6 := e_F_tr hF (e_F_tr (e_F_tr (e_F_fr hf4 (by omega)) (e_F_fr hf5 (by omega))) (e_F_fr hf6 (by omega)))
                              have hsw6 : ∀ m p, m < 4 → p < 5 → s1 229 (5 * m + p) = bI (t_sw X m p) := fun m p hm hp => by rw [hf6 229 (by omega), hf5 229 (by omega), hf4 229 (by omega)]; exact hsws m p hm hp
                              refine r_iload dX12_tabu_208 rfl ?_
                              refine n_ifle (tgt := 232) dX12_tabu_210 (by decide) (by omega) (fun c210 => ?_) (fun c210 => ?_)
                              · refine n_const 0 dX12_tabu_232 (by decide) ?_
                                refine r_istore dX12_tabu_233 (by decide) rfl ?_
                                refine r_iload dX12_tabu_235 rfl ?_
                                refine r_if_lt (tgt := 266) dX12_tabu_237 (by decide) (fun c237 => ?_) (fun c237 => ?_)
                                · refine n_inc dX12_tabu_266 rfl (n_i1 _) (by decide) rfl ?_
                                  refine r_goto (tgt := 128) dX12_tabu_269 (by decide) ?_
                                  have q9 := ih2 (i + 1)
                                  first
                                    | (rw [t_ch_no (X := X) (W := W) (st := md + 1) (ten := ten) (lst := x_s0 Xb) (i := i) (t_cd_c hv), hbq] at q9; exact q9 bn _ _ _ _ _ s1 (fun c9 hc9 => by cases hc9) hbn2 hM6 hW6 h106 hXb6 hF6 hsw6 (by omega) (by omega))
                                · exact absurd (by decide) c237
                              · refine r_iload dX12_tabu_213 rfl ?_
                                refine r_iload dX12_tabu_215 rfl ?_
                                refine r_iload_n dX12_tabu_217 rfl rfl ?_
                                refine r_isub dX12_tabu_218 ?_
                                refine r_icmp_lt (tgt := 232) dX12_tabu_219 (by decide) (fun c219 => ?_) (fun c219 => ?_)
                                · simp only [Int32.lt_iff_toInt_lt, nI_sub (show md + 1 < 2 ^ 31 by omega) (show ten < 2 ^ 31 by omega), nI_toInt (show W (X (183 + 5 * (i / 5) + i % 5)) (X (183 + 5 * (i / 5) + (i % 5 + 1))) < 2 ^ 31 by omega)] at c219
                                  have e219 : W (X (183 + 5 * (i / 5) + i % 5)) (X (183 + 5 * (i / 5) + (i % 5 + 1))) + ten < md + 1 := by omega
                                  refine n_const 0 dX12_tabu_232 (by decide) ?_
                                  refine r_istore dX12_tabu_233 (by decide) rfl ?_
                                  refine r_iload dX12_tabu_235 rfl ?_
                                  refine r_if_lt (tgt := 266) dX12_tabu_237 (by decide) (fun c237 => ?_) (fun c237 => ?_)
                                  · refine n_inc dX12_tabu_266 rfl (n_i1 _) (by decide) rfl ?_
                                    refine r_goto (tgt := 128) dX12_tabu_269 (by decide) ?_
                                    have q9 := ih2 (i + 1)
                                    first
                                      | (rw [t_ch_no (X := X) (W := W) (st := md + 1) (ten := ten) (lst := x_s0 Xb) (i := i) (t_cd_c hv), hbq] at q9; exact q9 bn _ _ _ _ _ s1 (fun c9 hc9 => by cases hc9) hbn2 hM6 hW6 h106 hXb6 hF6 hsw6 (by omega) (by omega))
                                  · exact absurd (by decide) c237
                                · simp only [Int32.lt_iff_toInt_lt, nI_sub (show md + 1 < 2 ^ 31 by omega) (show ten < 2 ^ 31 by omega), nI_toInt (show W (X (183 + 5 * (i / 5) + i % 5)) (X (183 + 5 * (i / 5) + (i % 5 + 1))) < 2 ^ 31 by omega)] at c219
                                  have e219 : md + 1 ≤ W (X (183 + 5 * (i / 5) + i % 5)) (X (183 + 5 * (i / 5) + (i % 5 + 1))) + ten := by omega
                                  refine r_iload dX12_tabu_222 rfl ?_
                                  refine r_iload_n dX12_tabu_224 rfl rfl ?_
                                  refine r_icmp_lt (tgt := 232) dX12_tabu_225 (by decide) (fun c225 => ?_) (fun c225 => ?_)
                                  · refine n_const 0 dX12_tabu_232 (by decide) ?_
                                    refine r_istore dX12_tabu_233 (by decide) rfl ?_
                                    refine r_iload dX12_tabu_235 rfl ?_
                                    refine r_if_lt (tgt := 266) dX12_tabu_237 (by decide) (fun c237 => ?_) (fun c237 => ?_)
                                    · refine n_inc dX12_tabu_266 rfl (n_i1 _) (by decide) rfl ?_
                                      refine r_goto (tgt := 128) dX12_tabu_269 (by decide) ?_
                                      have q9 := ih2 (i + 1)
                                      first
                                        | (rw [t_ch_no (X := X) (W := W) (st := md + 1) (ten := ten) (lst := x_s0 Xb) (i := i) (t_cd_c hv), hbq] at q9; exact q9 bn _ _ _ _ _ s1 (fun c9 hc9 => by cases hc9) hbn2 hM6 hW6 h106 hXb6 hF6 hsw6 (by omega) (by omega))
                                    · exact absurd (by decide) c237
                                  · refine n_const 1 dX12_tabu_228 (by decide) ?_
                                    refine r_goto (tgt := 233) dX12_tabu_229 (by decide) ?_
                                    refine r_istore dX12_tabu_233 (by decide) rfl ?_
                                    refine r_iload dX12_tabu_235 rfl ?_
                                    refine r_if_lt (tgt := 266) dX12_tabu_237 (by decide) (fun c237 => ?_) (fun c237 => ?_)
                                    · refine n_inc dX12_tabu_266 rfl (n_i1 _) (by decide) rfl ?_
                                      refine r_goto (tgt := 128) dX12_tabu_269 (by decide) ?_
                                      have q9 := ih2 (i + 1)
                                      first
                                        | (rw [t_ch_no (X := X) (W := W) (st := md + 1) (ten := ten) (lst := x_s0 Xb) (i := i) (t_cd_c hv), hbq] at q9; exact q9 bn _ _ _ _ _ s1 (fun c9 hc9 => by cases hc9) hbn2 hM6 hW6 h106 hXb6 hF6 hsw6 (by omega) (by omega))
                                    · exact absurd (by decide) c237
                          | some v =>
                            have hvb := x_sp_bd hw2 hv
                            refine r_aload_n dX12_tabu_135 rfl rfl ?_
                            refine s_getR dX12_tabu_136 fX12_64 lysX12 rfl ?_
                            refine r_iload dX12_tabu_139 rfl ?_
                            refine a_zld dX12_tabu_141 rfl (by omega) (by decide) (show u1 229 i = bI (t_sw X (i / 5) (i % 5)) by rw [← hsws (i / 5) (i % 5) (by omega) (by omega), show 5 * (i / 5) + i % 5 = i by omega]) ?_
                            refine b_ifeq (tgt := 266) dX12_tabu_142 (by decide) (fun c142 => ?_) (fun c142 => ?_)
                            · exact absurd c142 (by rw [hsw]; exact fun z9 => by cases z9)
                            · refine r_iload dX12_tabu_145 rfl ?_
                              refine n_const 5 dX12_tabu_147 (by decide) ?_
                              refine n_div dX12_tabu_148 (by decide) (by omega) (by omega) ?_
                              refine r_istore dX12_tabu_149 (by decide) rfl ?_
                              refine r_iload dX12_tabu_151 rfl ?_
                              refine n_const 5 dX12_tabu_153 (by decide) ?_
                              refine n_rem dX12_tabu_154 (by decide) (by omega) (by omega) ?_
                              refine r_istore dX12_tabu_155 (by decide) rfl ?_
                              refine r_aload_n dX12_tabu_157 rfl rfl ?_
                              refine s_getR dX12_tabu_158 fX12_58 lysX12 rfl ?_
                              refine n_bip 20 dX12_tabu_161 (by decide) ?_
                              refine r_aload_n dX12_tabu_163 rfl rfl ?_
                              refine r_iload dX12_tabu_164 rfl ?_
                              refine r_iload dX12_tabu_166 rfl ?_
                              refine s_V2I mX12_ordered dX12_tabu_168 okX12_ordered lX12_142 npX12_ordered lysX12 rfl (by decide) (by decide) (by decide) (Nat.le_of_ble_eq_true rfl) (Nat.le_of_ble_eq_true rfl) (c_ordered hM (by omega) (by omega)) (fun x s1 hq => ?_)
                              obtain ⟨e9, rfl⟩ := hq
                              replace e9 := e9.symm
                              subst e9
                              refine n_mul dX12_tabu_171 ?_
                              refine r_aload_n dX12_tabu_172 rfl rfl ?_
                              refine r_iload dX12_tabu_173 rfl ?_
                              refine r_iload dX12_tabu_175 rfl ?_
                              refine n_const 1 dX12_tabu_177 (by decide) ?_
                              refine n_add dX12_tabu_178 ?_
                              refine s_V2I mX12_ordered dX12_tabu_179 okX12_ordered lX12_142 npX12_ordered lysX12 rfl (by decide) (by decide) (by decide) (Nat.le_of_ble_eq_true rfl) (Nat.le_of_ble_eq_true rfl) (c_ordered hM (by omega) (by omega)) (fun x s1 hq => ?_)
                              obtain ⟨e9, rfl⟩ := hq
                              replace e9 := e9.symm
                              subst e9
                              refine n_add dX12_tabu_182 ?_
                              refine a_ld dX12_tabu_183 rfl (by omega) (by decide) (hW (X (183 + 5 * (i / 5) + i % 5)) (X (183 + 5 * (i / 5) + (i % 5 + 1))) (by omega) (by omega)) ?_
                              refine r_istore dX12_tabu_184 (by decide) rfl ?_
                              refine r_aload_n dX12_tabu_186 rfl rfl ?_
                              refine r_iload dX12_tabu_187 rfl ?_
                              refine r_iload dX12_tabu_189 rfl ?_
                              refine s_V2V mX12_exchange dX12_tabu_191 okX12_exchange lX12_221 npX12_exchange lysX12 rfl (by decide) (by decide) (by decide) (Nat.le_of_ble_eq_true rfl) (Nat.le_of_ble_eq_true rfl) (c_mExchange hM (by omega) (by omega)) (fun s1 hq => ?_)
                              obtain ⟨hM4, hf4⟩ := hq
                              refine r_aload_n dX12_tabu_194 rfl rfl ?_
                              refine s_V0I mX12_makespanNow dX12_tabu_195 okX12_makespanNow lX12_188 npX12_makespanNow lysX12 rfl (by decide) (by decide) (by decide) (Nat.le_of_ble_eq_true rfl) (Nat.le_of_ble_eq_true rfl) (c_makespanNow hM4 (m_op_e hop9 (e_F_tr hF (e_F_fr hf4 (by omega)))) (m_H_e hH9 (e_F_tr hF (e_F_fr hf4 (by omega)))) hw2 hu9 (fun q z => by cases z)) (fun x s1 hq => ?_)
                              obtain ⟨K9, r9, t9, rk9, e9, -, -, -, -, hf5⟩ := hq
                              rw [x_sp_n (hu := hu) (hu' := 0) hw2, hv] at e9
                              have e9 : x = nI v := e9
                              subst e9
                              have hM5 := m_R_fr hM4 hf5 (Or.inl (by omega))
                              refine r_istore dX12_tabu_198 (by decide) rfl ?_
                              refine r_aload_n dX12_tabu_200 rfl rfl ?_
                              refine r_iload dX12_tabu_201 rfl ?_
                              refine r_iload dX12_tabu_203 rfl ?_
                              refine s_V2V mX12_exchange dX12_tabu_205 okX12_exchange lX12_221 npX12_exchange lysX12 rfl (by decide) (by decide) (by decide) (Nat.le_of_ble_eq_true rfl) (Nat.le_of_ble_eq_true rfl) (c_mExchange hM5 (by omega) (by omega)) (fun s1 hq => ?_)
                              obtain ⟨hM6, hf6⟩ := hq
                              rw [x_sw_sw] at hM6
                              have hW6 : U_W W s1 := (fun a9 b9 ha9 hb9 => by rw [hf6 227 (by omega), hf5 227 (by omega), hf4 227 (by omega)]; exact hW a9 b9 ha9 hb9)
                              have h106 : s1 212 10 = nI md := by rw [hf6 212 (by omega), hf5 212 (by omega), hf4 212 (by omega)]; exact h10
                              have hXb6 : ∀ k, k < 20 → s1 228 k = nI (Xb (183 + k)) := fun k hk => by rw [hf6 228 (by omega), hf5 228 (by omega), hf4 228 (by omega)]; exact hXb k hk
                              have hF6 := e_F_tr hF (e_F_tr (e_F_tr (e_F_fr hf4 (by omega)) (e_F_fr hf5 (by omega))) (e_F_fr hf6 (by omega)))
                              have hsw6 : ∀ m p, m < 4 → p < 5 → s1 229 (5 * m + p) = bI (t_sw X m p) := fun m p hm hp => by rw [hf6 229 (by omega), hf5 229 (by omega), hf4 229 (by omega)]; exact hsws m p hm hp
                              refine r_iload dX12_tabu_208 rfl ?_
                              refine n_ifle (tgt := 232) dX12_tabu_210 (by decide) (by omega) (fun c210 => ?_) (fun c210 => ?_)
                              · refine n_const 0 dX12_tabu_232 (by decide) ?_
                                refine r_istore dX12_tabu_233 (by decide) rfl ?_
                                refine r_iload dX12_tabu_235 rfl ?_
                                refine r_if_lt (tgt := 266) dX12_tabu_237 (by decide) (fun c237 => ?_) (fun c237 => ?_)
                                · exact absurd c237 (nI_nn2 (by omega))
                                · refine r_iload dX12_tabu_240 rfl ?_
                                  refine n_ifne (tgt := 266) dX12_tabu_242 (by decide) (by omega) (fun c242 => ?_) (fun c242 => ?_)
                                  · exact absurd c242 (by decide)
                                  · refine r_iload dX12_tabu_245 rfl ?_
                                    refine r_iconst (v := -1) dX12_tabu_247 (by decide) ?_
                                    refine r_icmp_eq (tgt := 258) dX12_tabu_248 (by decide) (fun c248 => ?_) (fun c248 => ?_)
                                    · refine r_iload dX12_tabu_258 rfl ?_
                                      refine r_istore dX12_tabu_260 (by decide) rfl ?_
                                      refine r_iload dX12_tabu_262 rfl ?_
                                      refine r_istore dX12_tabu_264 (by decide) rfl ?_
                                      refine n_inc dX12_tabu_266 rfl (n_i1 _) (by decide) rfl ?_
                                      refine r_goto (tgt := 128) dX12_tabu_269 (by decide) ?_
                                      have q9 := ih2 (i + 1)
                                      first
                                        | (rw [t_ch_no (X := X) (W := W) (st := md + 1) (ten := ten) (lst := x_s0 Xb) (i := i) (t_cd_f hv ⟨by omega, by omega, by omega⟩), hbq] at q9; exact q9 bn _ _ _ _ _ s1 (fun c9 hc9 => by cases hc9) hbn2 hM6 hW6 h106 hXb6 hF6 hsw6 (by omega) (by omega))
                                        | (rw [t_ch_n (X := X) (W := W) (st := md + 1) (ten := ten) (lst := x_s0 Xb) (i := i) (t_cd_s hsw hv (by omega)) hbq] at q9; exact q9 v _ _ _ _ _ s1 (fun c9 hc9 => by cases hc9; rfl) (by omega) hM6 hW6 h106 hXb6 hF6 hsw6 (by omega) (by omega))
                                    · exact absurd rfl c248
                              · refine r_iload dX12_tabu_213 rfl ?_
                                refine r_iload dX12_tabu_215 rfl ?_
                                refine r_iload_n dX12_tabu_217 rfl rfl ?_
                                refine r_isub dX12_tabu_218 ?_
                                refine r_icmp_lt (tgt := 232) dX12_tabu_219 (by decide) (fun c219 => ?_) (fun c219 => ?_)
                                · simp only [Int32.lt_iff_toInt_lt, nI_sub (show md + 1 < 2 ^ 31 by omega) (show ten < 2 ^ 31 by omega), nI_toInt (show W (X (183 + 5 * (i / 5) + i % 5)) (X (183 + 5 * (i / 5) + (i % 5 + 1))) < 2 ^ 31 by omega)] at c219
                                  have e219 : W (X (183 + 5 * (i / 5) + i % 5)) (X (183 + 5 * (i / 5) + (i % 5 + 1))) + ten < md + 1 := by omega
                                  refine n_const 0 dX12_tabu_232 (by decide) ?_
                                  refine r_istore dX12_tabu_233 (by decide) rfl ?_
                                  refine r_iload dX12_tabu_235 rfl ?_
                                  refine r_if_lt (tgt := 266) dX12_tabu_237 (by decide) (fun c237 => ?_) (fun c237 => ?_)
                                  · exact absurd c237 (nI_nn2 (by omega))
                                  · refine r_iload dX12_tabu_240 rfl ?_
                                    refine n_ifne (tgt := 266) dX12_tabu_242 (by decide) (by omega) (fun c242 => ?_) (fun c242 => ?_)
                                    · exact absurd c242 (by decide)
                                    · refine r_iload dX12_tabu_245 rfl ?_
                                      refine r_iconst (v := -1) dX12_tabu_247 (by decide) ?_
                                      refine r_icmp_eq (tgt := 258) dX12_tabu_248 (by decide) (fun c248 => ?_) (fun c248 => ?_)
                                      · refine r_iload dX12_tabu_258 rfl ?_
                                        refine r_istore dX12_tabu_260 (by decide) rfl ?_
                                        refine r_iload dX12_tabu_262 rfl ?_
                                        refine r_istore dX12_tabu_264 (by decide) rfl ?_
                                        refine n_inc dX12_tabu_266 rfl (n_i1 _) (by decide) rfl ?_
                                        refine r_goto (tgt := 128) dX12_tabu_269 (by decide) ?_
                                        have q9 := ih2 (i + 1)
                                        first
                                          | (rw [t_ch_no (X := X) (W := W) (st := md + 1) (ten := ten) (lst := x_s0 Xb) (i := i) (t_cd_f hv ⟨by omega, by omega, by omega⟩), hbq] at q9; exact q9 bn _ _ _ _ _ s1 (fun c9 hc9 => by cases hc9) hbn2 hM6 hW6 h106 hXb6 hF6 hsw6 (by omega) (by omega))
                                          | (rw [t_ch_n (X := X) (W := W) (st := md + 1) (ten := ten) (lst := x_s0 Xb) (i := i) (t_cd_s hsw hv (by omega)) hbq] at q9; exact q9 v _ _ _ _ _ s1 (fun c9 hc9 => by cases hc9; rfl) (by omega) hM6 hW6 h106 hXb6 hF6 hsw6 (by omega) (by omega))
                                      · exact absurd rfl c248
                                · simp only [Int32.lt_iff_toInt_lt, nI_sub (show md + 1 < 2 ^ 31 by omega) (show ten < 2 ^ 31 by omega), nI_toInt (show W (X (183 + 5 * (i / 5) + i % 5)) (X (183 + 5 * (i / 5) + (i % 5 + 1))) < 2 ^ 31 by omega)] at c219
                                  have e219 : md + 1 ≤ W (X (183 + 5 * (i / 5) + i % 5)) (X (183 + 5 * (i / 5) + (i % 5 + 1))) + ten := by omega
                                  refine r_iload dX12_tabu_222 rfl ?_
                                  refine r_iload_n dX12_tabu_224 rfl rfl ?_
                                  refine n_clt (tgt := 232) dX12_tabu_225 (by decide) (by omega) (by omega) (fun c225 => ?_) (fun c225 => ?_)
                                  · refine n_const 0 dX12_tabu_232 (by decide) ?_
                                    refine r_istore dX12_tabu_233 (by decide) rfl ?_
                                    refine r_iload dX12_tabu_235 rfl ?_
                                    refine r_if_lt (tgt := 266) dX12_tabu_237 (by decide) (fun c237 => ?_) (fun c237 => ?_)
                                    · exact absurd c237 (nI_nn2 (by omega))
                                    · refine r_iload dX12_tabu_240 rfl ?_
                                      refine n_ifne (tgt := 266) dX12_tabu_242 (by decide) (by omega) (fun c242 => ?_) (fun c242 => ?_)
                                      · exact absurd c242 (by decide)
                                      · refine r_iload dX12_tabu_245 rfl ?_
                                        refine r_iconst (v := -1) dX12_tabu_247 (by decide) ?_
                                        refine r_icmp_eq (tgt := 258) dX12_tabu_248 (by decide) (fun c248 => ?_) (fun c248 => ?_)
                                        · refine r_iload dX12_tabu_258 rfl ?_
                                          refine r_istore dX12_tabu_260 (by decide) rfl ?_
                                          refine r_iload dX12_tabu_262 rfl ?_
                                          refine r_istore dX12_tabu_264 (by decide) rfl ?_
                                          refine n_inc dX12_tabu_266 rfl (n_i1 _) (by decide) rfl ?_
                                          refine r_goto (tgt := 128) dX12_tabu_269 (by decide) ?_
                                          have q9 := ih2 (i + 1)
                                          first
                                            | (rw [t_ch_no (X := X) (W := W) (st := md + 1) (ten := ten) (lst := x_s0 Xb) (i := i) (t_cd_f hv ⟨by omega, by omega, by omega⟩), hbq] at q9; exact q9 bn _ _ _ _ _ s1 (fun c9 hc9 => by cases hc9) hbn2 hM6 hW6 h106 hXb6 hF6 hsw6 (by omega) (by omega))
                                            | (rw [t_ch_n (X := X) (W := W) (st := md + 1) (ten := ten) (lst := x_s0 Xb) (i := i) (t_cd_s hsw hv (by omega)) hbq] at q9; exact q9 v _ _ _ _ _ s1 (fun c9 hc9 => by cases hc9; rfl) (by omega) hM6 hW6 h106 hXb6 hF6 hsw6 (by omega) (by omega))
                                        · exact absurd rfl c248
                                  · refine n_const 1 dX12_tabu_228 (by decide) ?_
                                    refine r_goto (tgt := 233) dX12_tabu_229 (by decide) ?_
                                    refine r_istore dX12_tabu_233 (by decide) rfl ?_
                                    refine r_iload dX12_tabu_235 rfl ?_
                                    refine r_if_lt (tgt := 266) dX12_tabu_237 (by decide) (fun c237 => ?_) (fun c237 => ?_)
                                    · exact absurd c237 (nI_nn2 (by omega))
                                    · refine r_iload dX12_tabu_240 rfl ?_
                                      refine n_ifne (tgt := 266) dX12_tabu_242 (by decide) (by omega) (fun c242 => ?_) (fun c242 => ?_)
                                      · refine n_inc dX12_tabu_266 rfl (n_i1 _) (by decide) rfl ?_
                                        refine r_goto (tgt := 128) dX12_tabu_269 (by decide) ?_
                                        have q9 := ih2 (i + 1)
                                        first
                                          | (rw [t_ch_no (X := X) (W := W) (st := md + 1) (ten := ten) (lst := x_s0 Xb) (i := i) (t_cd_f hv ⟨by omega, by omega, by omega⟩), hbq] at q9; exact q9 bn _ _ _ _ _ s1 (fun c9 hc9 => by cases hc9) hbn2 hM6 hW6 h106 hXb6 hF6 hsw6 (by omega) (by omega))
                                          | (rw [t_ch_n (X := X) (W := W) (st := md + 1) (ten := ten) (lst := x_s0 Xb) (i := i) (t_cd_s hsw hv (by omega)) hbq] at q9; exact q9 v _ _ _ _ _ s1 (fun c9 hc9 => by cases hc9; rfl) (by omega) hM6 hW6 h106 hXb6 hF6 hsw6 (by omega) (by omega))
                                      · exact absurd c242 (by decide)
                        · refine r_aload_n dX12_tabu_135 rfl rfl ?_
                          refine s_getR dX12_tabu_136 fX12_64 lysX12 rfl ?_
                          refine r_iload dX12_tabu_139 rfl ?_
                          refine a_zld dX12_tabu_141 rfl (by omega) (by decide) (show u1 229 i = bI (t_sw X (i / 5) (i % 5)) by rw [← hsws (i / 5) (i % 5) (by omega) (by omega), show 5 * (i / 5) + i % 5 = i by omega]) ?_
                          refine b_ifeq (tgt := 266) dX12_tabu_142 (by decide) (fun c142 => ?_) (fun c142 => ?_)
                          · refine n_inc dX12_tabu_266 rfl (n_i1 _) (by decide) rfl ?_
                            refine r_goto (tgt := 128) dX12_tabu_269 (by decide) ?_
                            have q9 := ih2 (i + 1)
                            rw [t_ch_no (X := X) (W := W) (st := md + 1) (ten := ten) (lst := x_s0 Xb) (i := i) (t_cd_n hsw), hbq] at q9
                            exact q9 bn _ _ _ _ _ u1 (fun c9 hc9 => by cases hc9) hbn2 hM hW h10 hXb hF hsws (by omega) (by omega)
                          · exact absurd c142 hsw
                    | some c =>
                      have hcb := t_ch_ok _ _ hbq
                      have hcb1 := hcb.1
                      show s_W G mX12_tabu 12 0 0 _ 128 [some (.ref 212), some (.int (nI n)), some (.int (nI ten)), some (.int (nI (x_s0 Xb))), some (.int (nI 1)), some (.int (nI (md + 1))), some (.int (nI c.1)), some (.int (nI bn)), some (.int (nI i)), L9, L10, L11, L12, L13] [] u1
                      refine r_iload dX12_tabu_128 rfl ?_
                      refine n_bip 20 dX12_tabu_130 (by decide) ?_
                      refine n_cge (tgt := 272) dX12_tabu_132 (by decide) (by omega) (by omega) (fun c132 => ?_) (fun c132 => ?_)
                      · have e9 : i = 20 := by omega
                        subst e9
                        obtain ⟨g1, g2, g3, g4, g5, g6, g7⟩ := t_c hiv.1 hbq
                        have hbn1 := hbn c hbq
                        subst hbn1
                        have h5 := (x_mn hw g2).2
                        have lo9 : ∀ k, k < 183 → t_X X c.1 k = X k := fun k hk => x_pr_lo g4 hk
                        have l179 := lo9 (179 + c.1 / 5) (by omega)
                        have hA1 := (x_od g5.1 g2 (p := c.1 % 5) (by omega)).1
                        have hA2 := (x_od g5.1 g2 (p := c.1 % 5 + 1) (by omega)).1
                        rw [lo9 1 (by omega)] at hA1 hA2
                        refine r_iload dX12_tabu_272 rfl ?_
                        refine r_iconst (v := -1) dX12_tabu_274 (by decide) ?_
                        refine r_icmp_eq (tgt := 282) dX12_tabu_275 (by decide) (fun c275 => ?_) (fun c275 => ?_)
                        · exact absurd c275 (nI_m1 (by omega))
                        · refine n_const 1 dX12_tabu_278 (by decide) ?_
                          refine r_goto (tgt := 283) dX12_tabu_279 (by decide) ?_
                          refine r_istore dX12_tabu_283 (by decide) rfl ?_
                          refine r_iload dX12_tabu_285 rfl ?_
                          refine n_ifeq (tgt := 371) dX12_tabu_287 (by decide) (by omega) (fun c287 => ?_) (fun c287 => ?_)
                          · exact absurd c287 (by decide)
                          · refine r_iload dX12_tabu_290 rfl ?_
                            refine n_const 5 dX12_tabu_292 (by decide) ?_
                            refine n_div dX12_tabu_293 (by decide) (by omega) (by omega) ?_
                            refine r_istore dX12_tabu_294 (by decide) rfl ?_
                            refine r_iload dX12_tabu_296 rfl ?_
                            refine n_const 5 dX12_tabu_298 (by decide) ?_
                            refine n_rem dX12_tabu_299 (by decide) (by omega) (by omega) ?_
                            refine r_istore dX12_tabu_300 (by decide) rfl ?_
                            refine r_aload_n dX12_tabu_302 rfl rfl ?_
                            refine r_iload dX12_tabu_303 rfl ?_
                            refine r_iload dX12_tabu_305 rfl ?_
                            refine s_V2V mX12_exchange dX12_tabu_307 okX12_exchange lX12_221 npX12_exchange lysX12 rfl (by decide) (by decide) (by decide) (Nat.le_of_ble_eq_true rfl) (Nat.le_of_ble_eq_true rfl) (c_mExchange hM (by omega) (by omega)) (fun s1 hq => ?_)
                            obtain ⟨hM4, hf4⟩ := hq
                            replace hM4 : m_R (t_X X c.1) s1 := hM4
                            refine r_aload_n dX12_tabu_310 rfl rfl ?_
                            refine s_getR dX12_tabu_311 fX12_58 lysX12 rfl ?_
                            refine n_bip 20 dX12_tabu_314 (by decide) ?_
                            refine r_aload_n dX12_tabu_316 rfl rfl ?_
                            refine r_iload dX12_tabu_317 rfl ?_
                            refine r_iload dX12_tabu_319 rfl ?_
                            refine s_V2I mX12_ordered dX12_tabu_321 okX12_ordered lX12_142 npX12_ordered lysX12 rfl (by decide) (by decide) (by decide) (Nat.le_of_ble_eq_true rfl) (Nat.le_of_ble_eq_true rfl) (c_ordered hM4 (by omega) (by omega)) (fun x s1 hq => ?_)
                            obtain ⟨e9, rfl⟩ := hq
                            replace e9 := e9.symm
                            subst e9
                            refine n_mul dX12_tabu_324 ?_
                            refine r_aload_n dX12_tabu_325 rfl rfl ?_
                            refine r_iload dX12_tabu_326 rfl ?_
                            refine r_iload dX12_tabu_328 rfl ?_
                            refine n_const 1 dX12_tabu_330 (by decide) ?_
                            refine n_add dX12_tabu_331 ?_
                            refine s_V2I mX12_ordered dX12_tabu_332 okX12_ordered lX12_142 npX12_ordered lysX12 rfl (by decide) (by decide) (by decide) (Nat.le_of_ble_eq_true rfl) (Nat.le_of_ble_eq_true rfl) (c_ordered hM4 (by omega) (by omega)) (fun x s1 hq => ?_)
                            obtain ⟨e9, rfl⟩ := hq
                            replace e9 := e9.symm
                            subst e9
                            refine n_add dX12_tabu_335 ?_
                            refine r_iload dX12_tabu_336 rfl ?_
                            refine a_st dX12_tabu_338 rfl (by omega) (by decide) (fun s5 hs5 hf5 => ?_)
                            refine r_aload_n dX12_tabu_339 rfl rfl ?_
                            refine r_iload dX12_tabu_340 rfl ?_
                            refine a_put dX12_tabu_342 gX12_270 lysX12 rfl rfl rfl (fun s6 hs6 hf6 => ?_)
                            have hW6 : U_W (t_W X W c.1 (md + 1)) s6 := fun a9 b9 ha9 hb9 => by
                              rw [hf6 227 (by omega), hs5]
                              unfold t_W
                              by_cases e : a9 = (t_X X c.1 (183 + 5 * (c.1 / 5) + c.1 % 5)) ∧ b9 = (t_X X c.1 (183 + 5 * (c.1 / 5) + (c.1 % 5 + 1)))
                              · rw [if_pos e, e.1, e.2, pk_us]
                              · rw [if_neg e, pk_un (by omega), hf4 227 (by omega)]; exact hW a9 b9 ha9 hb9
                            have hM6 : m_R (t_X X c.1) s6 := m_R_fr (m_R_fr hM4 hf5 (Or.inl (by omega))) hf6 (Or.inr (by omega))
                            have h106 : s6 212 10 = nI (md + 1) := by rw [hs6, pk_us]
                            have hF6 := e_F_tr hF (e_F_tr (e_F_tr (e_F_fr hf4 (by omega)) (e_F_fr hf5 (by omega))) (e_F_put hs6 hf6))
                            have hXb6 : ∀ k, k < 20 → s6 228 k = nI (Xb (183 + k)) := fun k hk => by rw [hf6 228 (by omega), hf5 228 (by omega), hf4 228 (by omega)]; exact hXb k hk
                            have hiv2 := t_iv_s hiv hbq (by omega)
                            have hX2 : t_lp ten (n - (md + 1)) (t_X X c.1) (t_W X W c.1 (md + 1)) (if c.2 < x_s0 Xb then t_X X c.1 else Xb) (md + 1) = (t_rs (z 0) n ten) := by
                              rw [← hX, show n - md = n - (md + 1) + 1 by omega, t_lp_s hbq]
                            refine r_iload dX12_tabu_345 rfl ?_
                            refine r_iload_n dX12_tabu_347 rfl rfl ?_
                            refine n_cge (tgt := 371) dX12_tabu_348 (by decide) (by omega) (by omega) (fun c348 => ?_) (fun c348 => ?_)
                            · refine r_goto (tgt := 94) dX12_tabu_371 (by decide) ?_
                              first
                                | (rw [if_neg (by omega)] at hiv2 hX2
                                   exact ih _ Xb _ (md + 1) _ _ _ _ _ _ _ _ _ s6 hiv2 hM6 hW6 h106 hXb6 hF6 hX2 (by omega) (by omega))
                                | (have e6 : (if c.2 < x_s0 Xb then t_X X c.1 else Xb) = t_X X c.1 := if_pos (by omega)
                                   rw [e6] at hiv2 hX2
                                   rw [g6]
                                   refine ih _ (t_X X c.1) _ (md + 1) _ _ _ _ _ _ _ _ _ s7 hiv2 (m_R_fr hM6 hf7 (Or.inl (by omega))) (fun a9 b9 ha9 hb9 => by rw [hf7 227 (by omega)]; exact hW6 a9 b9 ha9 hb9) (by rw [hf7 212 (by omega)]; exact h106) (fun k hk => ?_) (e_F_tr hF6 (e_F_fr hf7 (by omega))) hX2 (by omega) (by omega)
                                   rw [hs7 k, if_pos (by omega), Nat.sub_zero]
                                   exact hM6 (183 + k) (by omega))
                            · refine r_iload dX12_tabu_351 rfl ?_
                              refine r_istore_n dX12_tabu_353 rfl (by decide) rfl ?_
                              refine r_aload_n dX12_tabu_354 rfl rfl ?_
                              refine s_getR dX12_tabu_355 fX12_9 lysX12 rfl ?_
                              refine n_sip 183 dX12_tabu_358 (by decide) ?_
                              refine r_aload_n dX12_tabu_361 rfl rfl ?_
                              refine s_getR dX12_tabu_362 fX12_61 lysX12 rfl ?_
                              refine n_const 0 dX12_tabu_365 (by decide) ?_
                              refine n_bip 20 dX12_tabu_366 (by decide) ?_
                              refine n_copy dX12_tabu_368 kwC_X12 (by decide) (Nat.le_of_ble_eq_true rfl) rfl rfl (by omega) (by omega) (by decide) (by decide) (fun s7 hs7 hf7 => ?_)
                              refine r_goto (tgt := 94) dX12_tabu_371 (by decide) ?_
                              first
                                | (rw [if_neg (by omega)] at hiv2 hX2
                                   exact ih _ Xb _ (md + 1) _ _ _ _ _ _ _ _ _ s6 hiv2 hM6 hW6 h106 hXb6 hF6 hX2 (by omega) (by omega))
                                | (have e6 : (if c.2 < x_s0 Xb then t_X X c.1 else Xb) = t_X X c.1 := if_pos (by omega)
                                   rw [e6] at hiv2 hX2
                                   rw [g6]
                                   refine ih _ (t_X X c.1) _ (md + 1) _ _ _ _ _ _ _ _ _ s7 hiv2 (m_R_fr hM6 hf7 (Or.inl (by omega))) (fun a9 b9 ha9 hb9 => by rw [hf7 227 (by omega)]; exact hW6 a9 b9 ha9 hb9) (by rw [hf7 212 (by omega)]; exact h106) (fun k hk => ?_) (e_F_tr hF6 (e_F_fr hf7 (by omega))) hX2 (by omega) (by omega)
                                   rw [hs7 k, if_pos (by omega), Nat.sub_zero]
                                   exact hM6 (183 + k) (by omega))
                      · by_cases hsw : t_sw X (i / 5) (i % 5) = true
                        · have hsp := ((t_sw_i hiv.1).mp hsw).1
                          have hm5 := (x_mn hw (show i / 5 < 4 by omega)).2
                          have hod1 := (x_od hw (show i / 5 < 4 by omega) (p := i % 5) (by omega)).1
                          have hod2 := (x_od hw (show i / 5 < 4 by omega) hsp).1
                          have hpr := x_sw_pr hw (show i / 5 < 4 by omega) hsp
                          have hw2 := x_pr_wf hw (show i / 5 < 4 by omega) hpr
                          have hWb := hiv.2.2.2.1 (X (183 + 5 * (i / 5) + i % 5)) (X (183 + 5 * (i / 5) + (i % 5 + 1)))
                          cases hv : x_sp (x_sw X (i / 5) (i % 5)) n0 none 0 with
                          | none =>
                            have hbn1 := hbn c hbq
                            refine r_aload_n dX12_tabu_135 rfl rfl ?_
                            refine s_getR dX12_tabu_136 fX12_64 lysX12 rfl ?_
                            refine r_iload dX12_tabu_139 rfl ?_
                            refine a_zld dX12_tabu_141 rfl (by omega) (by decide) (show u1 229 i = bI (t_sw X (i / 5) (i % 5)) by rw [← hsws (i / 5) (i % 5) (by omega) (by omega), show 5 * (i / 5) + i % 5 = i by omega]) ?_
                            refine b_ifeq (tgt := 266) dX12_tabu_142 (by decide) (fun c142 => ?_) (fun c142 => ?_)
                            · exact absurd c142 (by rw [hsw]; exact fun z9 => by cases z9)
                            · refine r_iload dX12_tabu_145 rfl ?_
                              refine n_const 5 dX12_tabu_147 (by decide) ?_
                              refine n_div dX12_tabu_148 (by decide) (by omega) (by omega) ?_
                              refine r_istore dX12_tabu_149 (by decide) rfl ?_
                              refine r_iload dX12_tabu_151 rfl ?_
                              refine n_const 5 dX12_tabu_153 (by decide) ?_
                              refine n_rem dX12_tabu_154 (by decide) (by omega) (by omega) ?_
                              refine r_istore dX12_tabu_155 (by decide) rfl ?_
                              refine r_aload_n dX12_tabu_157 rfl rfl ?_
                              refine s_getR dX12_tabu_158 fX12_58 lysX12 rfl ?_
                              refine n_bip 20 dX12_tabu_161 (by decide) ?_
                              refine r_aload_n dX12_tabu_163 rfl rfl ?_
                              refine r_iload dX12_tabu_164 rfl ?_
                              refine r_iload dX12_tabu_166 rfl ?_
                              refine s_V2I mX12_ordered dX12_tabu_168 okX12_ordered lX12_142 npX12_ordered lysX12 rfl (by decide) (by decide) (by decide) (Nat.le_of_ble_eq_true rfl) (Nat.le_of_ble_eq_true rfl) (c_ordered hM (by omega) (by omega)) (fun x s1 hq => ?_)
                              obtain ⟨e9, rfl⟩ := hq
                              replace e9 := e9.symm
                              subst e9
                              refine n_mul dX12_tabu_171 ?_
                              refine r_aload_n dX12_tabu_172 rfl rfl ?_
                              refine r_iload dX12_tabu_173 rfl ?_
                              refine r_iload dX12_tabu_175 rfl ?_
                              refine n_const 1 dX12_tabu_177 (by decide) ?_
                              refine n_add dX12_tabu_178 ?_
                              refine s_V2I mX12_ordered dX12_tabu_179 okX12_ordered lX12_142 npX12_ordered lysX12 rfl (by decide) (by decide) (by decide) (Nat.le_of_ble_eq_true rfl) (Nat.le_of_ble_eq_true rfl) (c_ordered hM (by omega) (by omega)) (fun x s1 hq => ?_)
                              obtain ⟨e9, rfl⟩ := hq
                              replace e9 := e9.symm
                              subst e9
                              refine n_add dX12_tabu_182 ?_
                              refine a_ld dX12_tabu_183 rfl (by omega) (by decide) (hW (X (183 + 5 * (i / 5) + i % 5)) (X (183 + 5 * (i / 5) + (i % 5 + 1))) (by omega) (by omega)) ?_
                              refine r_istore dX12_tabu_184 (by decide) rfl ?_
                              refine r_aload_n dX12_tabu_186 rfl rfl ?_
                              refine r_iload dX12_tabu_187 rfl ?_
                              refine r_iload dX12_tabu_189 rfl ?_
                              refine s_V2V mX12_exchange dX12_tabu_191 okX12_exchange lX12_221 npX12_exchange lysX12 rfl (by decide) (by decide) (by decide) (Nat.le_of_ble_eq_true rfl) (Nat.le_of_ble_eq_true rfl) (c_mExchange hM (by omega) (by omega)) (fun s1 hq => ?_)
                              obtain ⟨hM4, hf4⟩ := hq
                              refine r_aload_n dX12_tabu_194 rfl rfl ?_
                              refine s_V0I mX12_makespanNow dX12_tabu_195 okX12_makespanNow lX12_188 npX12_makespanNow lysX12 rfl (by decide) (by decide) (by decide) (Nat.le_of_ble_eq_true rfl) (Nat.le_of_ble_eq_true rfl) (c_makespanNow hM4 (m_op_e hop9 (e_F_tr hF (e_F_fr hf4 (by omega)))) (m_H_e hH9 (e_F_tr hF (e_F_fr hf4 (by omega)))) hw2 hu9 (fun q z => by cases z)) (fun x s1 hq => ?_)
                              obtain ⟨K9, r9, t9, rk9, e9, -, -, -, -, hf5⟩ := hq
                              rw [x_sp_n (hu := hu) (hu' := 0) hw2, hv] at e9
                              have e9 : x = -1 := e9
                              subst e9
                              have hM5 := m_R_fr hM4 hf5 (Or.inl (by omega))
                              refine r_istore dX12_tabu_198 (by decide) rfl ?_
                              refine r_aload_n dX12_tabu_200 rfl rfl ?_
                              refine r_iload dX12_tabu_201 rfl ?_
                              refine r_iload dX12_tabu_203 rfl ?_
                              refine s_V2V mX12_exchange dX12_tabu_205 okX12_exchange lX12_221 npX12_exchange lysX12 rfl (by decide) (by decide) (by decide) (Nat.le_of_ble_eq_true rfl) (Nat.le_of_ble_eq_true rfl) (c_mExchange hM5 (by omega) (by omega)) (fun s1 hq => ?_)
                              obtain ⟨hM6, hf6⟩ := hq
                              rw [x_sw_sw] at hM6
                              have hW6 : U_W W s1 := (fun a9 b9 ha9 hb9 => by rw [hf6 227 (by omega), hf5 227 (by omega), hf4 227 (by omega)]; exact hW a9 b9 ha9 hb9)
                              have h106 : s1 212 10 = nI md := by rw [hf6 212 (by omega), hf5 212 (by omega), hf4 212 (by omega)]; exact h10
                              have hXb6 : ∀ k, k < 20 → s1 228 k = nI (Xb (183 + k)) := fun k hk => by rw [hf6 228 (by omega), hf5 228 (by omega), hf4 228 (by omega)]; exact hXb k hk
                              have hF6 := e_F_tr hF (e_F_tr (e_F_tr (e_F_fr hf4 (by omega)) (e_F_fr hf5 (by omega))) (e_F_fr hf6 (by omega)))
                              have hsw6 : ∀ m p, m < 4 → p < 5 → s1 229 (5 * m + p) = bI (t_sw X m p) := fun m p hm hp => by rw [hf6 229 (by omega), hf5 229 (by omega), hf4 229 (by omega)]; exact hsws m p hm hp
                              refine r_iload dX12_tabu_208 rfl ?_
                              refine n_ifle (tgt := 232) dX12_tabu_210 (by decide) (by omega) (fun c210 => ?_) (fun c210 => ?_)
                              · refine n_const 0 dX12_tabu_232 (by decide) ?_
                                refine r_istore dX12_tabu_233 (by decide) rfl ?_
                                refine r_iload dX12_tabu_235 rfl ?_
                                refine r_if_lt (tgt := 266) dX12_tabu_237 (by decide) (fun c237 => ?_) (fun c237 => ?_)
                                · refine n_inc dX12_tabu_266 rfl (n_i1 _) (by decide) rfl ?_
                                  refine r_goto (tgt := 128) dX12_tabu_269 (by decide) ?_
                                  have q9 := ih2 (i + 1)
                                  first
                                    | (rw [t_ch_no (X := X) (W := W) (st := md + 1) (ten := ten) (lst := x_s0 Xb) (i := i) (t_cd_c hv), hbq] at q9; exact q9 bn _ _ _ _ _ s1 (fun c9 hc9 => by cases hc9; exact hbn _ hbq) hbn2 hM6 hW6 h106 hXb6 hF6 hsw6 (by omega) (by omega))
                                · exact absurd (by decide) c237
                              · refine r_iload dX12_tabu_213 rfl ?_
                                refine r_iload dX12_tabu_215 rfl ?_
                                refine r_iload_n dX12_tabu_217 rfl rfl ?_
                                refine r_isub dX12_tabu_218 ?_
                                refine r_icmp_lt (tgt := 232) dX12_tabu_219 (by decide) (fun c219 => ?_) (fun c219 => ?_)
                                · simp only [Int32.lt_iff_toInt_lt, nI_sub (show md + 1 < 2 ^ 31 by omega) (show ten < 2 ^ 31 by omega), nI_toInt (show W (X (183 + 5 * (i / 5) + i % 5)) (X (183 + 5 * (i / 5) + (i % 5 + 1))) < 2 ^ 31 by omega)] at c219
                                  have e219 : W (X (183 + 5 * (i / 5) + i % 5)) (X (183 + 5 * (i / 5) + (i % 5 + 1))) + ten < md + 1 := by omega
                                  refine n_const 0 dX12_tabu_232 (by decide) ?_
                                  refine r_istore dX12_tabu_233 (by decide) rfl ?_
                                  refine r_iload dX12_tabu_235 rfl ?_
                                  refine r_if_lt (tgt := 266) dX12_tabu_237 (by decide) (fun c237 => ?_) (fun c237 => ?_)
                                  · refine n_inc dX12_tabu_266 rfl (n_i1 _) (by decide) rfl ?_
                                    refine r_goto (tgt := 128) dX12_tabu_269 (by decide) ?_
                                    have q9 := ih2 (i + 1)
                                    first
                                      | (rw [t_ch_no (X := X) (W := W) (st := md + 1) (ten := ten) (lst := x_s0 Xb) (i := i) (t_cd_c hv), hbq] at q9; exact q9 bn _ _ _ _ _ s1 (fun c9 hc9 => by cases hc9; exact hbn _ hbq) hbn2 hM6 hW6 h106 hXb6 hF6 hsw6 (by omega) (by omega))
                                  · exact absurd (by decide) c237
                                · simp only [Int32.lt_iff_toInt_lt, nI_sub (show md + 1 < 2 ^ 31 by omega) (show ten < 2 ^ 31 by omega), nI_toInt (show W (X (183 + 5 * (i / 5) + i % 5)) (X (183 + 5 * (i / 5) + (i % 5 + 1))) < 2 ^ 31 by omega)] at c219
                                  have e219 : md + 1 ≤ W (X (183 + 5 * (i / 5) + i % 5)) (X (183 + 5 * (i / 5) + (i % 5 + 1))) + ten := by omega
                                  refine r_iload dX12_tabu_222 rfl ?_
                                  refine r_iload_n dX12_tabu_224 rfl rfl ?_
                                  refine r_icmp_lt (tgt := 232) dX12_tabu_225 (by decide) (fun c225 => ?_) (fun c225 => ?_)
                                  · refine n_const 0 dX12_tabu_232 (by decide) ?_
                                    refine r_istore dX12_tabu_233 (by decide) rfl ?_
                                    refine r_iload dX12_tabu_235 rfl ?_
                                    refine r_if_lt (tgt := 266) dX12_tabu_237 (by decide) (fun c237 => ?_) (fun c237 => ?_)
                                    · refine n_inc dX12_tabu_266 rfl (n_i1 _) (by decide) rfl ?_
                                      refine r_goto (tgt := 128) dX12_tabu_269 (by decide) ?_
                                      have q9 := ih2 (i + 1)
                                      first
                                        | (rw [t_ch_no (X := X) (W := W) (st := md + 1) (ten := ten) (lst := x_s0 Xb) (i := i) (t_cd_c hv), hbq] at q9; exact q9 bn _ _ _ _ _ s1 (fun c9 hc9 => by cases hc9; exact hbn _ hbq) hbn2 hM6 hW6 h106 hXb6 hF6 hsw6 (by omega) (by omega))
                                    · exact absurd (by decide) c237
                                  · refine n_const 1 dX12_tabu_228 (by decide) ?_
                                    refine r_goto (tgt := 233) dX12_tabu_229 (by decide) ?_
                                    refine r_istore dX12_tabu_233 (by decide) rfl ?_
                                    refine r_iload dX12_tabu_235 rfl ?_
                                    refine r_if_lt (tgt := 266) dX12_tabu_237 (by decide) (fun c237 => ?_) (fun c237 => ?_)
                                    · refine n_inc dX12_tabu_266 rfl (n_i1 _) (by decide) rfl ?_
                                      refine r_goto (tgt := 128) dX12_tabu_269 (by decide) ?_
                                      have q9 := ih2 (i + 1)
                                      first
                                        | (rw [t_ch_no (X := X) (W := W) (st := md + 1) (ten := ten) (lst := x_s0 Xb) (i := i) (t_cd_c hv), hbq] at q9; exact q9 bn _ _ _ _ _ s1 (fun c9 hc9 => by cases hc9; exact hbn _ hbq) hbn2 hM6 hW6 h106 hXb6 hF6 hsw6 (by omega) (by omega))
                                    · exact absurd (by decide) c237
                          | some v =>
                            have hvb := x_sp_bd hw2 hv
                            have hbn1 := hbn c hbq
                            refine r_aload_n dX12_tabu_135 rfl rfl ?_
                            refine s_getR dX12_tabu_136 fX12_64 lysX12 rfl ?_
                            refine r_iload dX12_tabu_139 rfl ?_
                            refine a_zld dX12_tabu_141 rfl (by omega) (by decide) (show u1 229 i = bI (t_sw X (i / 5) (i % 5)) by rw [← hsws (i / 5) (i % 5) (by omega) (by omega), show 5 * (i / 5) + i % 5 = i by omega]) ?_
                            refine b_ifeq (tgt := 266) dX12_tabu_142 (by decide) (fun c142 => ?_) (fun c142 => ?_)
                            · exact absurd c142 (by rw [hsw]; exact fun z9 => by cases z9)
                            · refine r_iload dX12_tabu_145 rfl ?_
                              refine n_const 5 dX12_tabu_147 (by decide) ?_
                              refine n_div dX12_tabu_148 (by decide) (by omega) (by omega) ?_
                              refine r_istore dX12_tabu_149 (by decide) rfl ?_
                              refine r_iload dX12_tabu_151 rfl ?_
                              refine n_const 5 dX12_tabu_153 (by decide) ?_
                              refine n_rem dX12_tabu_154 (by decide) (by omega) (by omega) ?_
                              refine r_istore dX12_tabu_155 (by decide) rfl ?_
                              refine r_aload_n dX12_tabu_157 rfl rfl ?_
                              refine s_getR dX12_tabu_158 fX12_58 lysX12 rfl ?_
                              refine n_bip 20 dX12_tabu_161 (by decide) ?_
                              refine r_aload_n dX12_tabu_163 rfl rfl ?_
                              refine r_iload dX12_tabu_164 rfl ?_
                              refine r_iload dX12_tabu_166 rfl ?_
                              refine s_V2I mX12_ordered dX12_tabu_168 okX12_ordered lX12_142 npX12_ordered lysX12 rfl (by decide) (by decide) (by decide) (Nat.le_of_ble_eq_true rfl) (Nat.le_of_ble_eq_true rfl) (c_ordered hM (by omega) (by omega)) (fun x s1 hq => ?_)
                              obtain ⟨e9, rfl⟩ := hq
                              replace e9 := e9.symm
                              subst e9
                              refine n_mul dX12_tabu_171 ?_
                              refine r_aload_n dX12_tabu_172 rfl rfl ?_
                              refine r_iload dX12_tabu_173 rfl ?_
                              refine r_iload dX12_tabu_175 rfl ?_
                              refine n_const 1 dX12_tabu_177 (by decide) ?_
                              refine n_add dX12_tabu_178 ?_
                              refine s_V2I mX12_ordered dX12_tabu_179 okX12_ordered lX12_142 npX12_ordered lysX12 rfl (by decide) (by decide) (by decide) (Nat.le_of_ble_eq_true rfl) (Nat.le_of_ble_eq_true rfl) (c_ordered hM (by omega) (by omega)) (fun x s1 hq => ?_)
                              obtain ⟨e9, rfl⟩ := hq
                              replace e9 := e9.symm
                              subst e9
                              refine n_add dX12_tabu_182 ?_
                              refine a_ld dX12_tabu_183 rfl (by omega) (by decide) (hW (X (183 + 5 * (i / 5) + i % 5)) (X (183 + 5 * (i / 5) + (i % 5 + 1))) (by omega) (by omega)) ?_
                              refine r_istore dX12_tabu_184 (by decide) rfl ?_
                              refine r_aload_n dX12_tabu_186 rfl rfl ?_
                              refine r_iload dX12_tabu_187 rfl ?_
                              refine r_iload dX12_tabu_189 rfl ?_
                              refine s_V2V mX12_exchange dX12_tabu_191 okX12_exchange lX12_221 npX12_exchange lysX12 rfl (by decide) (by decide) (by decide) (Nat.le_of_ble_eq_true rfl) (Nat.le_of_ble_eq_true rfl) (c_mExchange hM (by omega) (by omega)) (fun s1 hq => ?_)
                              obtain ⟨hM4, hf4⟩ := hq
                              refine r_aload_n dX12_tabu_194 rfl rfl ?_
                              refine s_V0I mX12_makespanNow dX12_tabu_195 okX12_makespanNow lX12_188 npX12_makespanNow lysX12 rfl (by decide) (by decide) (by decide) (Nat.le_of_ble_eq_true rfl) (Nat.le_of_ble_eq_true rfl) (c_makespanNow hM4 (m_op_e hop9 (e_F_tr hF (e_F_fr hf4 (by omega)))) (m_H_e hH9 (e_F_tr hF (e_F_fr hf4 (by omega)))) hw2 hu9 (fun q z => by cases z)) (fun x s1 hq => ?_)
                              obtain ⟨K9, r9, t9, rk9, e9, -, -, -, -, hf5⟩ := hq
                              rw [x_sp_n (hu := hu) (hu' := 0) hw2, hv] at e9
                              have e9 : x = nI v := e9
                              subst e9
                              have hM5 := m_R_fr hM4 hf5 (Or.inl (by omega))
                              refine r_istore dX12_tabu_198 (by decide) rfl ?_
                              refine r_aload_n dX12_tabu_200 rfl rfl ?_
                              refine r_iload dX12_tabu_201 rfl ?_
                              refine r_iload dX12_tabu_203 rfl ?_
                              refine s_V2V mX12_exchange dX12_tabu_205 okX12_exchange lX12_221 npX12_exchange lysX12 rfl (by decide) (by decide) (by decide) (Nat.le_of_ble_eq_true rfl) (Nat.le_of_ble_eq_true rfl) (c_mExchange hM5 (by omega) (by omega)) (fun s1 hq => ?_)
                              obtain ⟨hM6, hf6⟩ := hq
                              rw [x_sw_sw] at hM6
                              have hW6 : U_W W s1 := (fun a9 b9 ha9 hb9 => by rw [hf6 227 (by omega), hf5 227 (by omega), hf4 227 (by omega)]; exact hW a9 b9 ha9 hb9)
                              have h106 : s1 212 10 = nI md := by rw [hf6 212 (by omega), hf5 212 (by omega), hf4 212 (by omega)]; exact h10
                              have hXb6 : ∀ k, k < 20 → s1 228 k = nI (Xb (183 + k)) := fun k hk => by rw [hf6 228 (by omega), hf5 228 (by omega), hf4 228 (by omega)]; exact hXb k hk
                              have hF6 := e_F_tr hF (e_F_tr (e_F_tr (e_F_fr hf4 (by omega)) (e_F_fr hf5 (by omega))) (e_F_fr hf6 (by omega)))
                              have hsw6 : ∀ m p, m < 4 → p < 5 → s1 229 (5 * m + p) = bI (t_sw X m p) := fun m p hm hp => by rw [hf6 229 (by omega), hf5 229 (by omega), hf4 229 (by omega)]; exact hsws m p hm hp
                              refine r_iload dX12_tabu_208 rfl ?_
                              refine n_ifle (tgt := 232) dX12_tabu_210 (by decide) (by omega) (fun c210 => ?_) (fun c210 => ?_)
                              · refine n_const 0 dX12_tabu_232 (by decide) ?_
                                refine r_istore dX12_tabu_233 (by decide) rfl ?_
                                refine r_iload dX12_tabu_235 rfl ?_
                                refine r_if_lt (tgt := 266) dX12_tabu_237 (by decide) (fun c237 => ?_) (fun c237 => ?_)
                                · exact absurd c237 (nI_nn2 (by omega))
                                · refine r_iload dX12_tabu_240 rfl ?_
                                  refine n_ifne (tgt := 266) dX12_tabu_242 (by decide) (by omega) (fun c242 => ?_) (fun c242 => ?_)
                                  · exact absurd c242 (by decide)
                                  · refine r_iload dX12_tabu_245 rfl ?_
                                    refine r_iconst (v := -1) dX12_tabu_247 (by decide) ?_
                                    refine r_icmp_eq (tgt := 258) dX12_tabu_248 (by decide) (fun c248 => ?_) (fun c248 => ?_)
                                    · exact absurd c248 (nI_m1 (by omega))
                                    · refine r_iload dX12_tabu_251 rfl ?_
                                      refine r_iload dX12_tabu_253 rfl ?_
                                      refine n_cge (tgt := 266) dX12_tabu_255 (by decide) (by omega) (by omega) (fun c255 => ?_) (fun c255 => ?_)
                                      · refine n_inc dX12_tabu_266 rfl (n_i1 _) (by decide) rfl ?_
                                        refine r_goto (tgt := 128) dX12_tabu_269 (by decide) ?_
                                        have q9 := ih2 (i + 1)
                                        first
                                          | (rw [t_ch_no (X := X) (W := W) (st := md + 1) (ten := ten) (lst := x_s0 Xb) (i := i) (t_cd_f hv ⟨by omega, by omega, by omega⟩), hbq] at q9; exact q9 bn _ _ _ _ _ s1 (fun c9 hc9 => by cases hc9; exact hbn _ hbq) hbn2 hM6 hW6 h106 hXb6 hF6 hsw6 (by omega) (by omega))
                                          | (rw [t_ch_y (X := X) (W := W) (st := md + 1) (ten := ten) (lst := x_s0 Xb) (i := i) (t_cd_s hsw hv (by omega)) hbq, if_pos (by omega)] at q9; exact q9 v _ _ _ _ _ s1 (fun c9 hc9 => by cases hc9; rfl) (by omega) hM6 hW6 h106 hXb6 hF6 hsw6 (by omega) (by omega))
                                          | (rw [t_ch_y (X := X) (W := W) (st := md + 1) (ten := ten) (lst := x_s0 Xb) (i := i) (t_cd_s hsw hv (by omega)) hbq, if_neg (by omega)] at q9; exact q9 bn _ _ _ _ _ s1 (fun c9 hc9 => by cases hc9; exact hbn _ hbq) hbn2 hM6 hW6 h106 hXb6 hF6 hsw6 (by omega) (by omega))
                                      · refine r_iload dX12_tabu_258 rfl ?_
                                        refine r_istore dX12_tabu_260 (by decide) rfl ?_
                                        refine r_iload dX12_tabu_262 rfl ?_
                                        refine r_istore dX12_tabu_264 (by decide) rfl ?_
                                        refine n_inc dX12_tabu_266 rfl (n_i1 _) (by decide) rfl ?_
                                        refine r_goto (tgt := 128) dX12_tabu_269 (by decide) ?_
                                        have q9 := ih2 (i + 1)
                                        first
                                          | (rw [t_ch_no (X := X) (W := W) (st := md + 1) (ten := ten) (lst := x_s0 Xb) (i := i) (t_cd_f hv ⟨by omega, by omega, by omega⟩), hbq] at q9; exact q9 bn _ _ _ _ _ s1 (fun c9 hc9 => by cases hc9; exact hbn _ hbq) hbn2 hM6 hW6 h106 hXb6 hF6 hsw6 (by omega) (by omega))
                                          | (rw [t_ch_y (X := X) (W := W) (st := md + 1) (ten := ten) (lst := x_s0 Xb) (i := i) (t_cd_s hsw hv (by omega)) hbq, if_pos (by omega)] at q9; exact q9 v _ _ _ _ _ s1 (fun c9 hc9 => by cases hc9; rfl) (by omega) hM6 hW6 h106 hXb6 hF6 hsw6 (by omega) (by omega))
                                          | (rw [t_ch_y (X := X) (W := W) (st := md + 1) (ten := ten) (lst := x_s0 Xb) (i := i) (t_cd_s hsw hv (by omega)) hbq, if_neg (by omega)] at q9; exact q9 bn _ _ _ _ _ s1 (fun c9 hc9 => by cases hc9; exact hbn _ hbq) hbn2 hM6 hW6 h106 hXb6 hF6 hsw6 (by omega) (by omega))
                              · refine r_iload dX12_tabu_213 rfl ?_
                                refine r_iload dX12_tabu_215 rfl ?_
                                refine r_iload_n dX12_tabu_217 rfl rfl ?_
                                refine r_isub dX12_tabu_218 ?_
                                refine r_icmp_lt (tgt := 232) dX12_tabu_219 (by decide) (fun c219 => ?_) (fun c219 => ?_)
                                · simp only [Int32.lt_iff_toInt_lt, nI_sub (show md + 1 < 2 ^ 31 by omega) (show ten < 2 ^ 31 by omega), nI_toInt (show W (X (183 + 5 * (i / 5) + i % 5)) (X (183 + 5 * (i / 5) + (i % 5 + 1))) < 2 ^ 31 by omega)] at c219
                                  have e219 : W (X (183 + 5 * (i / 5) + i % 5)) (X (183 + 5 * (i / 5) + (i % 5 + 1))) + ten < md + 1 := by omega
                                  refine n_const 0 dX12_tabu_232 (by decide) ?_
                                  refine r_istore dX12_tabu_233 (by decide) rfl ?_
                                  refine r_iload dX12_tabu_235 rfl ?_
                                  refine r_if_lt (tgt := 266) dX12_tabu_237 (by decide) (fun c237 => ?_) (fun c237 => ?_)
                                  · exact absurd c237 (nI_nn2 (by omega))
                                  · refine r_iload dX12_tabu_240 rfl ?_
                                    refine n_ifne (tgt := 266) dX12_tabu_242 (by decide) (by omega) (fun c242 => ?_) (fun c242 => ?_)
                                    · exact absurd c242 (by decide)
                                    · refine r_iload dX12_tabu_245 rfl ?_
                                      refine r_iconst (v := -1) dX12_tabu_247 (by decide) ?_
                                      refine r_icmp_eq (tgt := 258) dX12_tabu_248 (by decide) (fun c248 => ?_) (fun c248 => ?_)
                                      · exact absurd c248 (nI_m1 (by omega))
                                      · refine r_iload dX12_tabu_251 rfl ?_
                                        refine r_iload dX12_tabu_253 rfl ?_
                                        refine n_cge (tgt := 266) dX12_tabu_255 (by decide) (by omega) (by omega) (fun c255 => ?_) (fun c255 => ?_)
                                        · refine n_inc dX12_tabu_266 rfl (n_i1 _) (by decide) rfl ?_
                                          refine r_goto (tgt := 128) dX12_tabu_269 (by decide) ?_
                                          have q9 := ih2 (i + 1)
                                          first
                                            | (rw [t_ch_no (X := X) (W := W) (st := md + 1) (ten := ten) (lst := x_s0 Xb) (i := i) (t_cd_f hv ⟨by omega, by omega, by omega⟩), hbq] at q9; exact q9 bn _ _ _ _ _ s1 (fun c9 hc9 => by cases hc9; exact hbn _ hbq) hbn2 hM6 hW6 h106 hXb6 hF6 hsw6 (by omega) (by omega))
                                            | (rw [t_ch_y (X := X) (W := W) (st := md + 1) (ten := ten) (lst := x_s0 Xb) (i := i) (t_cd_s hsw hv (by omega)) hbq, if_pos (by omega)] at q9; exact q9 v _ _ _ _ _ s1 (fun c9 hc9 => by cases hc9; rfl) (by omega) hM6 hW6 h106 hXb6 hF6 hsw6 (by omega) (by omega))
                                            | (rw [t_ch_y (X := X) (W := W) (st := md + 1) (ten := ten) (lst := x_s0 Xb) (i := i) (t_cd_s hsw hv (by omega)) hbq, if_neg (by omega)] at q9; exact q9 bn _ _ _ _ _ s1 (fun c9 hc9 => by cases hc9; exact hbn _ hbq) hbn2 hM6 hW6 h106 hXb6 hF6 hsw6 (by omega) (by omega))
                                        · refine r_iload dX12_tabu_258 rfl ?_
                                          refine r_istore dX12_tabu_260 (by decide) rfl ?_
                                          refine r_iload dX12_tabu_262 rfl ?_
                                          refine r_istore dX12_tabu_264 (by decide) rfl ?_
                                          refine n_inc dX12_tabu_266 rfl (n_i1 _) (by decide) rfl ?_
                                          refine r_goto (tgt := 128) dX12_tabu_269 (by decide) ?_
                                          have q9 := ih2 (i + 1)
                                          first
                                            | (rw [t_ch_no (X := X) (W := W) (st := md + 1) (ten := ten) (lst := x_s0 Xb) (i := i) (t_cd_f hv ⟨by omega, by omega, by omega⟩), hbq] at q9; exact q9 bn _ _ _ _ _ s1 (fun c9 hc9 => by cases hc9; exact hbn _ hbq) hbn2 hM6 hW6 h106 hXb6 hF6 hsw6 (by omega) (by omega))
                                            | (rw [t_ch_y (X := X) (W := W) (st := md + 1) (ten := ten) (lst := x_s0 Xb) (i := i) (t_cd_s hsw hv (by omega)) hbq, if_pos (by omega)] at q9; exact q9 v _ _ _ _ _ s1 (fun c9 hc9 => by cases hc9; rfl) (by omega) hM6 hW6 h106 hXb6 hF6 hsw6 (by omega) (by omega))
                                            | (rw [t_ch_y (X := X) (W := W) (st := md + 1) (ten := ten) (lst := x_s0 Xb) (i := i) (t_cd_s hsw hv (by omega)) hbq, if_neg (by omega)] at q9; exact q9 bn _ _ _ _ _ s1 (fun c9 hc9 => by cases hc9; exact hbn _ hbq) hbn2 hM6 hW6 h106 hXb6 hF6 hsw6 (by omega) (by omega))
                                · simp only [Int32.lt_iff_toInt_lt, nI_sub (show md + 1 < 2 ^ 31 by omega) (show ten < 2 ^ 31 by omega), nI_toInt (show W (X (183 + 5 * (i / 5) + i % 5)) (X (183 + 5 * (i / 5) + (i % 5 + 1))) < 2 ^ 31 by omega)] at c219
                                  have e219 : md + 1 ≤ W (X (183 + 5 * (i / 5) + i % 5)) (X (183 + 5 * (i / 5) + (i % 5 + 1))) + ten := by omega
                                  refine r_iload dX12_tabu_222 rfl ?_
                                  refine r_iload_n dX12_tabu_224 rfl rfl ?_
                                  refine n_clt (tgt := 232) dX12_tabu_225 (by decide) (by omega) (by omega) (fun c225 => ?_) (fun c225 => ?_)
                                  · refine n_const 0 dX12_tabu_232 (by decide) ?_
                                    refine r_istore dX12_tabu_233 (by decide) rfl ?_
                                    refine r_iload dX12_tabu_235 rfl ?_
                                    refine r_if_lt (tgt := 266) dX12_tabu_237 (by decide) (fun c237 => ?_) (fun c237 => ?_)
                                    · exact absurd c237 (nI_nn2 (by omega))
                                    · refine r_iload dX12_tabu_240 rfl ?_
                                      refine n_ifne (tgt := 266) dX12_tabu_242 (by decide) (by omega) (fun c242 => ?_) (fun c242 => ?_)
                                      · exact absurd c242 (by decide)
                                      · refine r_iload dX12_tabu_245 rfl ?_
                                        refine r_iconst (v := -1) dX12_tabu_247 (by decide) ?_
                                        refine r_icmp_eq (tgt := 258) dX12_tabu_248 (by decide) (fun c248 => ?_) (fun c248 => ?_)
                                        · exact absurd c248 (nI_m1 (by omega))
                                        · refine r_iload dX12_tabu_251 rfl ?_
                                          refine r_iload dX12_tabu_253 rfl ?_
                                          refine n_cge (tgt := 266) dX12_tabu_255 (by decide) (by omega) (by omega) (fun c255 => ?_) (fun c255 => ?_)
                                          · refine n_inc dX12_tabu_266 rfl (n_i1 _) (by decide) rfl ?_
                                            refine r_goto (tgt := 128) dX12_tabu_269 (by decide) ?_
                                            have q9 := ih2 (i + 1)
                                            first
                                              | (rw [t_ch_no (X := X) (W := W) (st := md + 1) (ten := ten) (lst := x_s0 Xb) (i := i) (t_cd_f hv ⟨by omega, by omega, by omega⟩), hbq] at q9; exact q9 bn _ _ _ _ _ s1 (fun c9 hc9 => by cases hc9; exact hbn _ hbq) hbn2 hM6 hW6 h106 hXb6 hF6 hsw6 (by omega) (by omega))
                                              | (rw [t_ch_y (X := X) (W := W) (st := md + 1) (ten := ten) (lst := x_s0 Xb) (i := i) (t_cd_s hsw hv (by omega)) hbq, if_pos (by omega)] at q9; exact q9 v _ _ _ _ _ s1 (fun c9 hc9 => by cases hc9; rfl) (by omega) hM6 hW6 h106 hXb6 hF6 hsw6 (by omega) (by omega))
                                              | (rw [t_ch_y (X := X) (W := W) (st := md + 1) (ten := ten) (lst := x_s0 Xb) (i := i) (t_cd_s hsw hv (by omega)) hbq, if_neg (by omega)] at q9; exact q9 bn _ _ _ _ _ s1 (fun c9 hc9 => by cases hc9; exact hbn _ hbq) hbn2 hM6 hW6 h106 hXb6 hF6 hsw6 (by omega) (by omega))
                                          · refine r_iload dX12_tabu_258 rfl ?_
                                            refine r_istore dX12_tabu_260 (by decide) rfl ?_
                                            refine r_iload dX12_tabu_262 rfl ?_
                                            refine r_istore dX12_tabu_264 (by decide) rfl ?_
                                            refine n_inc dX12_tabu_266 rfl (n_i1 _) (by decide) rfl ?_
                                            refine r_goto (tgt := 128) dX12_tabu_269 (by decide) ?_
                                            have q9 := ih2 (i + 1)
                                            first
                                              | (rw [t_ch_no (X := X) (W := W) (st := md + 1) (ten := ten) (lst := x_s0 Xb) (i := i) (t_cd_f hv ⟨by omega, by omega, by omega⟩), hbq] at q9; exact q9 bn _ _ _ _ _ s1 (fun c9 hc9 => by cases hc9; exact hbn _ hbq) hbn2 hM6 hW6 h106 hXb6 hF6 hsw6 (by omega) (by omega))
                                              | (rw [t_ch_y (X := X) (W := W) (st := md + 1) (ten := ten) (lst := x_s0 Xb) (i := i) (t_cd_s hsw hv (by omega)) hbq, if_pos (by omega)] at q9; exact q9 v _ _ _ _ _ s1 (fun c9 hc9 => by cases hc9; rfl) (by omega) hM6 hW6 h106 hXb6 hF6 hsw6 (by omega) (by omega))
                                              | (rw [t_ch_y (X := X) (W := W) (st := md + 1) (ten := ten) (lst := x_s0 Xb) (i := i) (t_cd_s hsw hv (by omega)) hbq, if_neg (by omega)] at q9; exact q9 bn _ _ _ _ _ s1 (fun c9 hc9 => by cases hc9; exact hbn _ hbq) hbn2 hM6 hW6 h106 hXb6 hF6 hsw6 (by omega) (by omega))
                                  · refine n_const 1 dX12_tabu_228 (by decide) ?_
                                    refine r_goto (tgt := 233) dX12_tabu_229 (by decide) ?_
                                    refine r_istore dX12_tabu_233 (by decide) rfl ?_
                                    refine r_iload dX12_tabu_235 rfl ?_
                                    refine r_if_lt (tgt := 266) dX12_tabu_237 (by decide) (fun c237 => ?_) (fun c237 => ?_)
                                    · exact absurd c237 (nI_nn2 (by omega))
                                    · refine r_iload dX12_tabu_240 rfl ?_
                                      refine n_ifne (tgt := 266) dX12_tabu_242 (by decide) (by omega) (fun c242 => ?_) (fun c242 => ?_)
                                      · refine n_inc dX12_tabu_266 rfl (n_i1 _) (by decide) rfl ?_
                                        refine r_goto (tgt := 128) dX12_tabu_269 (by decide) ?_
                                        have q9 := ih2 (i + 1)
                                        first
                                          | (rw [t_ch_no (X := X) (W := W) (st := md + 1) (ten := ten) (lst := x_s0 Xb) (i := i) (t_cd_f hv ⟨by omega, by omega, by omega⟩), hbq] at q9; exact q9 bn _ _ _ _ _ s1 (fun c9 hc9 => by cases hc9; exact hbn _ hbq) hbn2 hM6 hW6 h106 hXb6 hF6 hsw6 (by omega) (by omega))
                                          | (rw [t_ch_y (X := X) (W := W) (st := md + 1) (ten := ten) (lst := x_s0 Xb) (i := i) (t_cd_s hsw hv (by omega)) hbq, if_pos (by omega)] at q9; exact q9 v _ _ _ _ _ s1 (fun c9 hc9 => by cases hc9; rfl) (by omega) hM6 hW6 h106 hXb6 hF6 hsw6 (by omega) (by omega))
                                          | (rw [t_ch_y (X := X) (W := W) (st := md + 1) (ten := ten) (lst := x_s0 Xb) (i := i) (t_cd_s hsw hv (by omega)) hbq, if_neg (by omega)] at q9; exact q9 bn _ _ _ _ _ s1 (fun c9 hc9 => by cases hc9; exact hbn _ hbq) hbn2 hM6 hW6 h106 hXb6 hF6 hsw6 (by omega) (by omega))
                                      · exact absurd c242 (by decide)
                        · refine r_aload_n dX12_tabu_135 rfl rfl ?_
                          refine s_getR dX12_tabu_136 fX12_64 lysX12 rfl ?_
                          refine r_iload dX12_tabu_139 rfl ?_
                          refine a_zld dX12_tabu_141 rfl (by omega) (by decide) (show u1 229 i = bI (t_sw X (i / 5) (i % 5)) by rw [← hsws (i / 5) (i % 5) (by omega) (by omega), show 5 * (i / 5) + i % 5 = i by omega]) ?_
                          refine b_ifeq (tgt := 266) dX12_tabu_142 (by decide) (fun c142 => ?_) (fun c142 => ?_)
                          · refine n_inc dX12_tabu_266 rfl (n_i1 _) (by decide) rfl ?_
                            refine r_goto (tgt := 128) dX12_tabu_269 (by decide) ?_
                            have q9 := ih2 (i + 1)
                            rw [t_ch_no (X := X) (W := W) (st := md + 1) (ten := ten) (lst := x_s0 Xb) (i := i) (t_cd_n hsw), hbq] at q9
                            exact q9 bn _ _ _ _ _ u1 (fun c9 hc9 => by cases hc9; exact hbn _ hbq) hbn2 hM hW h10 hXb hF hsws (by omega) (by omega)
                          · exact absurd c142 hsw
                exact l2 21 0 0 _ _ _ _ _ s1 (fun c hc => by cases hc) (by omega) hM hW h10 hXb hF hsws (by omega) (by omega)
        have l0 : ∀ f i u1, (∀ q, q < i → u1 227 q = nI 0) → s_fr 227 228 sB u1 → i ≤ 400 → 400 < i + f → s_W G mX12_tabu 12 0 0 (m_P (A_tabu z (nI n) (nI ten)) s) 44 [some (.ref 212), some (.int (nI n)), some (.int (nI ten)), some (.int (nI i)), none, none, none, none, none, none, none, none, none, none] [] u1 := by
          intro f
          induction f with
          | zero =>
            intro i u1 hA hf0 hi hme
            exact absurd hme (by omega)
          | succ f ih =>
            intro i u1 hA hf0 hi hme
            refine r_iload_n dX12_tabu_44 rfl rfl ?_
            refine n_sip 400 dX12_tabu_45 (by decide) ?_
            refine n_cge (tgt := 64) dX12_tabu_48 (by decide) (by omega) (by omega) (fun c48 => ?_) (fun c48 => ?_)
            · refine r_aload_n dX12_tabu_64 rfl rfl ?_
              refine s_getR dX12_tabu_65 fX12_9 lysX12 rfl ?_
              refine n_sip 183 dX12_tabu_68 (by decide) ?_
              refine r_aload_n dX12_tabu_71 rfl rfl ?_
              refine s_getR dX12_tabu_72 fX12_61 lysX12 rfl ?_
              refine n_const 0 dX12_tabu_75 (by decide) ?_
              refine n_bip 20 dX12_tabu_76 (by decide) ?_
              refine n_copy dX12_tabu_78 kwC_X12 (by decide) (Nat.le_of_ble_eq_true rfl) rfl rfl (by omega) (by omega) (by decide) (by decide) (fun s4 hs4 hf4 => ?_)
              refine r_aload_n dX12_tabu_81 rfl rfl ?_
              refine s_V0I mX12_makespanNow dX12_tabu_82 okX12_makespanNow lX12_188 npX12_makespanNow lysX12 rfl (by decide) (by decide) (by decide) (Nat.le_of_ble_eq_true rfl) (Nat.le_of_ble_eq_true rfl) (c_makespanNow0 (X := z 0) (m_R_fr (m_R_fr hM hf0 (Or.inl (by omega))) hf4 (Or.inl (by omega))) (m_op_e hop9 (e_F_tr (e_F_fr hf0 (by omega)) (e_F_fr hf4 (by omega)))) ⟨hu, hu9, m_H_e hH9 (e_F_tr (e_F_fr hf0 (by omega)) (e_F_fr hf4 (by omega)))⟩ (z_gd hz)) (fun x s1 hq => ?_)
              obtain ⟨rfl, -, hf5⟩ := hq
              refine r_istore_n dX12_tabu_85 rfl (by decide) rfl ?_
              refine r_aload_n dX12_tabu_86 rfl rfl ?_
              refine n_const 0 dX12_tabu_87 (by decide) ?_
              refine a_put dX12_tabu_88 gX12_270 lysX12 rfl rfl rfl (fun s6 hs6 hf6 => ?_)
              refine n_const 1 dX12_tabu_91 (by decide) ?_
              refine r_istore dX12_tabu_92 (by decide) rfl ?_
              have e9 : i = 400 := by omega
              subst e9
              refine ol (n + 1) (z 0) (z 0) (fun _ _ => 0) 0 _ _ _ _ _ _ _ _ _ s6 (t_iv_0 (z_gd hz)) (m_R_fr (m_R_fr (m_R_fr (m_R_fr hM hf0 (Or.inl (by omega))) hf4 (Or.inl (by omega))) hf5 (Or.inl (by omega))) hf6 (Or.inr (by omega))) (fun a9 b9 ha9 hb9 => ?_) (by rw [hs6, pk_us]) (fun k hk => ?_) (e_F_tr (e_F_tr (e_F_fr hf0 (by omega)) (e_F_fr hf4 (by omega))) (e_F_tr (e_F_fr hf5 (by omega)) (e_F_put hs6 hf6))) rfl (by omega) (by omega)
              · rw [hf6 227 (by omega), hf5 227 (by omega), hf4 227 (by omega)]; exact hA _ (by omega)
              · rw [hf6 228 (by omega), hf5 228 (by omega), hs4 k, if_pos (by omega), Nat.sub_zero, hf0 213 (by omega)]
                exact hM (183 + k) (by omega)
            · refine r_aload_n dX12_tabu_51 rfl rfl ?_
              refine s_getR dX12_tabu_52 fX12_58 lysX12 rfl ?_
              refine r_iload_n dX12_tabu_55 rfl rfl ?_
              refine n_const 0 dX12_tabu_56 (by decide) ?_
              refine a_st dX12_tabu_57 rfl (by omega) (by decide) (fun s2 hs2 hf2 => ?_)
              refine n_inc dX12_tabu_58 rfl (n_i1 _) (by decide) rfl ?_
              refine r_goto (tgt := 44) dX12_tabu_61 (by decide) ?_
              refine ih (i + 1) s2 (fun q hq => ?_) (s_fr_tr hf0 hf2) (by omega) (by omega)
              rw [hs2]
              by_cases e : q = i
              · subst e; rw [pk_us]
              · rw [pk_un e]; exact hA q (by omega)
        exact l0 401 0 sB (fun q hq => absurd hq (by omega)) s_fr_rf (by omega) (by omega)
      · exact absurd c37 (by decide)
end
