/-! ===== the reference's bounds ===== -/
theorem x_sm_d {f g : Nat → Nat} {b : Nat} (h : g b + 1 = f b) (h2 : ∀ i, i ≠ b → g i = f i) : ∀ n, b < n → x_sm g n + 1 = x_sm f n
  | 0, hb => absurd hb (by omega)
  | n + 1, hb => by
    show x_sm g n + g n + 1 = x_sm f n + f n
    by_cases e : b = n
    · subst e
      rw [x_sm_cg (f := g) (g := f) b (fun i hi => h2 i (by omega))]
      omega
    · have := x_sm_d h h2 n (by omega)
      rw [h2 n (fun z => e z.symm)]
      omega
theorem x_sm_p {f : Nat → Nat} {k : Nat} (h : 0 < f k) : ∀ n, k < n → 0 < x_sm f n
  | 0, hk => absurd hk (by omega)
  | n + 1, hk => by
    show 0 < x_sm f n + f n
    by_cases e : k = n
    · subst e; omega
    · have := x_sm_p h n (by omega); omega
theorem x_ct_d {K K' : Nat → Bool} {b : Nat} (h1 : K b = true) (h2 : K' b = false) (h3 : ∀ i, i ≠ b → K' i = K i) {n : Nat} (hb : b < n) : x_ct K' n + 1 = x_ct K n := by
  have h := x_ct_up (K := K') h2 n
  rw [if_pos hb] at h
  rw [← h]
  refine x_ct_congr _ (fun k _ => ?_)
  by_cases e : k = b
  · subst e; rw [va_up_s, h1]
  · rw [va_up_n e, h3 k e]
theorem x_ct_ex {K : Nat → Bool} {n : Nat} (h : 0 < x_ct K n) : ∃ k, k < n ∧ K k = true := by
  obtain ⟨k, a, b, -⟩ := x_kth n 0 h
  exact ⟨k, a, b⟩
theorem x_rs_tl {X : x_T} (hw : y_wf X) {k : Nat} (hk : k < X 1) : x_rs X k = X (82 + k) + x_tl X k ∧ x_rs X k ≤ 150 := by
  have h := y_op hw hk
  have e : x_rs X k = X (82 + k) + x_tl X k := by
    unfold x_rs x_tl
    rw [show X (17 + X (42 + k)) - X (122 + k) = X (17 + X (42 + k)) - (X (122 + k) + 1) + 1 by omega, x_wk_s, h.2.2.2.2.2.1]
  have := x_hd_le hw hk
  exact ⟨e, by omega⟩
def m_bd (X : x_T) (m : Nat) (lf : Nat → Nat) (s : s_T) : Prop := ∀ k, k < X 1 → X (62 + k) = m → s 230 k = nI (x_hd X k) ∧ s 231 k = nI (x_tl X k) ∧ s 232 k = nI (lf k)
def x_lw (X : x_T) (m : Nat) (lf : Nat → Nat) : Nat := x_sm (fun k => if X (62 + k) = m then lf k else 0) (X 1)
def x_ln (X : x_T) (m : Nat) (lf : Nat → Nat) : Nat := x_ct (fun k => decide (X (62 + k) = m ∧ 0 < lf k)) (X 1)
set_option maxRecDepth 20000 in
set_option maxHeartbeats 1000000 in
theorem c_boundOf {G : q_G} {s : s_T} {X : x_T} {m : Nat} (hM : m_R X s) (hw : x_wf X) (hm : m < 4) : s_W G mX12_boundOf 5 0 0 (c_I (fun y9 s1 => y9 = nI (x_bd X m) ∧ s_fr 230 233 s s1)) 0 (q_ent mX12_boundOf [.ref 212, .int (nI m)]) [] s := by
  show s_W G mX12_boundOf 5 0 0 _ 0 [some (.ref 212), some (.int (nI m)), none, none, none, none, none, none] [] s
  have hs := x_sz hw
  have hmn := x_mn hw hm
  obtain ⟨B, hE0⟩ : ∃ B, B = x_bd X m := ⟨_, rfl⟩
  have lB : ∀ f t lf left bd (L5 : Option Value) (L6 : Option Value) (L7 : Option Value) s1, m_bd X m lf s1 → m_R X s1 → (∀ k, k < X 1 → lf k ≤ 30) → s_fr 230 233 s s1 → bd ≤ 1200 → left = x_ln X m lf → x_bi X m f t lf left bd = B → (x_lw X m lf ≤ 600 ∧ (t ≤ 220 ∨ x_lw X m lf + t ≤ 820)) → t + f = 1000 → s_W G mX12_boundOf 5 0 0 (c_I (fun y9 s1 => y9 = nI (x_bd X m) ∧ s_fr 230 233 s s1)) 159 [some (.ref 212), some (.int (nI m)), some (.int (nI left)), some (.int (nI bd)), some (.int (nI t)), L5, L6, L7] [] s1 := by
    intro f
    induction f with
    | zero =>
      intro t lf left bd L5 L6 L7 s1 hA hM1 hlf hf hbd hl hE hW hme
      exact absurd hme (by omega)
    | succ f ih =>
      intro t lf left bd L5 L6 L7 s1 hA hM1 hlf hf hbd hl hE hW hme
      have hle : left ≤ 20 := by have := x_ct_le (K := fun k => decide (X (62 + k) = m ∧ 0 < lf k)) (X 1); unfold x_ln at hl; omega
      refine r_iload_n dX12_boundOf_159 rfl rfl ?_
      refine n_ifle (tgt := 319) dX12_boundOf_160 (by decide) (by omega) (fun c160 => ?_) (fun c160 => ?_)
      · refine r_iload_n dX12_boundOf_319 rfl rfl ?_
        refine s_iret dX12_boundOf_320 rfl rfl ?_
        refine ⟨_, rfl, ?_, hf⟩
        rw [← hE0, ← hE, x_bi_0 (by omega)]
      · refine r_iconst (v := -1) dX12_boundOf_163 (by decide) ?_
        refine r_istore dX12_boundOf_164 (by decide) rfl ?_
        refine n_const 0 dX12_boundOf_166 (by decide) ?_
        refine r_istore dX12_boundOf_167 (by decide) rfl ?_
        have l3 : ∀ f3 k (L7 : Option Value), k ≤ X 1 → X 1 < k + f3 → s_W G mX12_boundOf 5 0 0 (c_I (fun y9 s1 => y9 = nI (x_bd X m) ∧ s_fr 230 233 s s1)) 169 [some (.ref 212), some (.int (nI m)), some (.int (nI left)), some (.int (nI bd)), some (.int (nI t)), some (.int (oI (x_bh X m lf t k))), some (.int (nI k)), L7] [] s1 := by
          intro f3
          induction f3 with
          | zero =>
            intro k L7 hk hme
            exact absurd hme (by omega)
          | succ f3 ih3 =>
            intro k L7 hk hme
            cases hbq : x_bh X m lf t k with
            | none =>
              show s_W G mX12_boundOf 5 0 0 _ 169 [some (.ref 212), some (.int (nI m)), some (.int (nI left)), some (.int (nI bd)), some (.int (nI t)), some (.int (-1)), some (.int (nI k)), L7] [] s1
              refine r_iload dX12_boundOf_169 rfl ?_
              refine r_aload_n dX12_boundOf_171 rfl rfl ?_
              refine s_getR dX12_boundOf_172 fX12_9 lysX12 rfl ?_
              refine n_const 1 dX12_boundOf_175 (by decide) ?_
              refine m_ld dX12_boundOf_176 hM1 (by omega) ?_
              refine n_cge (tgt := 266) dX12_boundOf_177 (by decide) (by omega) (by omega) (fun c177 => ?_) (fun c177 => ?_)
              · have e9 : k = X 1 := by omega
                subst e9
                refine r_iload dX12_boundOf_266 rfl ?_
                refine r_iconst (v := -1) dX12_boundOf_268 (by decide) ?_
                refine r_icmp_eq (tgt := 313) dX12_boundOf_269 (by decide) (fun c269 => ?_) (fun c269 => ?_)
                · refine n_inc dX12_boundOf_313 rfl (n_i1 _) (by decide) rfl ?_
                  refine r_goto (tgt := 159) dX12_boundOf_316 (by decide) ?_
                  refine ih (t + 1) lf left bd _ _ _ s1 hA hM1 hlf hf hbd hl ?_ ?_ (by omega)
                  · rw [← hE]; exact (x_bi_n (by omega) hbq).symm
                  · have h9 : t < 219 := by
                      apply Classical.byContradiction
                      intro h8
                      obtain ⟨k, k1, k2⟩ := x_ct_ex (K := fun k => decide (X (62 + k) = m ∧ 0 < lf k)) (n := X 1) (by unfold x_ln at hl; omega)
                      have k3 := of_decide_eq_true k2
                      exact x_bh_ex (X 1) k k1 k3.1 k3.2 (by have := x_hd_le (x_wf_y hw) k1; omega) hbq
                    exact ⟨hW.1, Or.inl (by omega)⟩
                · exact absurd rfl c269
              · have hkb := x_hd_le (x_wf_y hw) c177
                have hop := x_op hw c177
                have hlk := hlf k c177
                refine r_aload_n dX12_boundOf_180 rfl rfl ?_
                refine s_getR dX12_boundOf_181 fX12_9 lysX12 rfl ?_
                refine n_bip 62 dX12_boundOf_184 (by decide) ?_
                refine r_iload dX12_boundOf_186 rfl ?_
                refine n_add dX12_boundOf_188 ?_
                refine m_ld dX12_boundOf_189 hM1 (by omega) ?_
                refine r_iload_n dX12_boundOf_190 rfl rfl ?_
                refine n_cne (tgt := 220) dX12_boundOf_191 (by decide) (by omega) (by omega) (fun c191 => ?_) (fun c191 => ?_)
                · refine n_const 0 dX12_boundOf_220 (by decide) ?_
                  refine r_istore dX12_boundOf_221 (by decide) rfl ?_
                  refine r_iload dX12_boundOf_223 rfl ?_
                  refine n_ifeq (tgt := 256) dX12_boundOf_225 (by decide) (by omega) (fun c225 => ?_) (fun c225 => ?_)
                  · refine r_iload dX12_boundOf_256 rfl ?_
                    refine r_istore dX12_boundOf_258 (by decide) rfl ?_
                    refine n_inc dX12_boundOf_260 rfl (n_i1 _) (by decide) rfl ?_
                    refine r_goto (tgt := 169) dX12_boundOf_263 (by decide) ?_
                    have q9 := fun L7 => ih3 (k + 1) L7 (by omega) (by omega)
                    first
                      | (rw [x_bh_n ⟨c191, by omega, by omega⟩ hbq] at q9; exact q9 _)
                      | (rw [x_bh_no (fun z => by have z2 := z.2; omega), hbq] at q9; exact q9 _)
                      | (rw [x_bh_no (fun z => c191 z.1), hbq] at q9; exact q9 _)
                  · exact absurd c225 (by decide)
                · refine r_aload_n dX12_boundOf_194 rfl rfl ?_
                  refine s_getR dX12_boundOf_195 fX12_73 lysX12 rfl ?_
                  refine r_iload dX12_boundOf_198 rfl ?_
                  refine a_ld dX12_boundOf_200 rfl (by omega) (by decide) (hA k c177 c191).2.2 ?_
                  refine n_ifle (tgt := 220) dX12_boundOf_201 (by decide) (by omega) (fun c201 => ?_) (fun c201 => ?_)
                  · refine n_const 0 dX12_boundOf_220 (by decide) ?_
                    refine r_istore dX12_boundOf_221 (by decide) rfl ?_
                    refine r_iload dX12_boundOf_223 rfl ?_
                    refine n_ifeq (tgt := 256) dX12_boundOf_225 (by decide) (by omega) (fun c225 => ?_) (fun c225 => ?_)
                    · refine r_iload dX12_boundOf_256 rfl ?_
                      refine r_istore dX12_boundOf_258 (by decide) rfl ?_
                      refine n_inc dX12_boundOf_260 rfl (n_i1 _) (by decide) rfl ?_
                      refine r_goto (tgt := 169) dX12_boundOf_263 (by decide) ?_
                      have q9 := fun L7 => ih3 (k + 1) L7 (by omega) (by omega)
                      first
                        | (rw [x_bh_n ⟨c191, by omega, by omega⟩ hbq] at q9; exact q9 _)
                        | (rw [x_bh_no (fun z => by have z2 := z.2; omega), hbq] at q9; exact q9 _)
                        | (rw [x_bh_no (fun z => c191 z.1), hbq] at q9; exact q9 _)
                    · exact absurd c225 (by decide)
                  · refine r_aload_n dX12_boundOf_204 rfl rfl ?_
                    refine s_getR dX12_boundOf_205 fX12_67 lysX12 rfl ?_
                    refine r_iload dX12_boundOf_208 rfl ?_
                    refine a_ld dX12_boundOf_210 rfl (by omega) (by decide) (hA k c177 c191).1 ?_
                    refine r_iload dX12_boundOf_211 rfl ?_
                    refine n_cgt (tgt := 220) dX12_boundOf_213 (by decide) (by omega) (by omega) (fun c213 => ?_) (fun c213 => ?_)
                    · refine n_const 0 dX12_boundOf_220 (by decide) ?_
                      refine r_istore dX12_boundOf_221 (by decide) rfl ?_
                      refine r_iload dX12_boundOf_223 rfl ?_
                      refine n_ifeq (tgt := 256) dX12_boundOf_225 (by decide) (by omega) (fun c225 => ?_) (fun c225 => ?_)
                      · refine r_iload dX12_boundOf_256 rfl ?_
                        refine r_istore dX12_boundOf_258 (by decide) rfl ?_
                        refine n_inc dX12_boundOf_260 rfl (n_i1 _) (by decide) rfl ?_
                        refine r_goto (tgt := 169) dX12_boundOf_263 (by decide) ?_
                        have q9 := fun L7 => ih3 (k + 1) L7 (by omega) (by omega)
                        first
                          | (rw [x_bh_n ⟨c191, by omega, by omega⟩ hbq] at q9; exact q9 _)
                          | (rw [x_bh_no (fun z => by have z2 := z.2; omega), hbq] at q9; exact q9 _)
                          | (rw [x_bh_no (fun z => c191 z.1), hbq] at q9; exact q9 _)
                      · exact absurd c225 (by decide)
                    · refine n_const 1 dX12_boundOf_216 (by decide) ?_
                      refine r_goto (tgt := 221) dX12_boundOf_217 (by decide) ?_
                      refine r_istore dX12_boundOf_221 (by decide) rfl ?_
                      refine r_iload dX12_boundOf_223 rfl ?_
                      refine n_ifeq (tgt := 256) dX12_boundOf_225 (by decide) (by omega) (fun c225 => ?_) (fun c225 => ?_)
                      · exact absurd c225 (by decide)
                      · refine r_iload dX12_boundOf_228 rfl ?_
                        refine r_iconst (v := -1) dX12_boundOf_230 (by decide) ?_
                        refine r_icmp_eq (tgt := 251) dX12_boundOf_231 (by decide) (fun c231 => ?_) (fun c231 => ?_)
                        · refine r_iload dX12_boundOf_251 rfl ?_
                          refine r_goto (tgt := 258) dX12_boundOf_253 (by decide) ?_
                          refine r_istore dX12_boundOf_258 (by decide) rfl ?_
                          refine n_inc dX12_boundOf_260 rfl (n_i1 _) (by decide) rfl ?_
                          refine r_goto (tgt := 169) dX12_boundOf_263 (by decide) ?_
                          have q9 := fun L7 => ih3 (k + 1) L7 (by omega) (by omega)
                          first
                            | (rw [x_bh_n ⟨c191, by omega, by omega⟩ hbq] at q9; exact q9 _)
                            | (rw [x_bh_no (fun z => by have z2 := z.2; omega), hbq] at q9; exact q9 _)
                            | (rw [x_bh_no (fun z => c191 z.1), hbq] at q9; exact q9 _)
                        · exact absurd rfl c231
            | some b =>
              show s_W G mX12_boundOf 5 0 0 _ 169 [some (.ref 212), some (.int (nI m)), some (.int (nI left)), some (.int (nI bd)), some (.int (nI t)), some (.int (nI b)), some (.int (nI k)), L7] [] s1
              refine r_iload dX12_boundOf_169 rfl ?_
              refine r_aload_n dX12_boundOf_171 rfl rfl ?_
              refine s_getR dX12_boundOf_172 fX12_9 lysX12 rfl ?_
              refine n_const 1 dX12_boundOf_175 (by decide) ?_
              refine m_ld dX12_boundOf_176 hM1 (by omega) ?_
              refine n_cge (tgt := 266) dX12_boundOf_177 (by decide) (by omega) (by omega) (fun c177 => ?_) (fun c177 => ?_)
              · have e9 : k = X 1 := by omega
                subst e9
                have hbo := x_bh_ok _ _ hbq
                have hb3 := hA b hbo.1 hbo.2.1
                have hbb := x_hd_le (x_wf_y hw) hbo.1
                have hlb := hlf b hbo.1
                refine r_iload dX12_boundOf_266 rfl ?_
                refine r_iconst (v := -1) dX12_boundOf_268 (by decide) ?_
                refine r_icmp_eq (tgt := 313) dX12_boundOf_269 (by decide) (fun c269 => ?_) (fun c269 => ?_)
                · exact absurd c269 (nI_m1 (by omega))
                · refine r_aload_n dX12_boundOf_272 rfl rfl ?_
                  refine s_getR dX12_boundOf_273 fX12_73 lysX12 rfl ?_
                  refine r_iload dX12_boundOf_276 rfl ?_
                  refine r_dup2 dX12_boundOf_278 rfl rfl ?_
                  refine a_ld dX12_boundOf_279 rfl (by omega) (by decide) hb3.2.2 ?_
                  refine n_const 1 dX12_boundOf_280 (by decide) ?_
                  refine n_sub dX12_boundOf_281 (by omega) ?_
                  refine a_st dX12_boundOf_282 rfl (by omega) (by decide) (fun s2 hs2 hf2 => ?_)
                  refine r_aload_n dX12_boundOf_283 rfl rfl ?_
                  refine s_getR dX12_boundOf_284 fX12_73 lysX12 rfl ?_
                  refine r_iload dX12_boundOf_287 rfl ?_
                  refine a_ld dX12_boundOf_289 rfl (by omega) (by decide) (show s2 232 b = nI (lf b - 1) by rw [hs2, pk_us]) ?_
                  refine n_ifne (tgt := 313) dX12_boundOf_290 (by decide) (by omega) (fun c290 => ?_) (fun c290 => ?_)
                  · refine n_inc dX12_boundOf_313 rfl (n_i1 _) (by decide) rfl ?_
                    refine r_goto (tgt := 159) dX12_boundOf_316 (by decide) ?_
                    have hA2 : m_bd X m (va_up lf b (lf b - 1)) s2 := fun k hk hkm => by
                      rw [hf2 230 (by omega), hf2 231 (by omega), hs2]
                      by_cases e : k = b
                      · subst e; rw [pk_us, va_up_s]; exact ⟨hb3.1, hb3.2.1, rfl⟩
                      · rw [pk_un e, va_up_n e]; exact hA k hk hkm
                    have hlf2 : ∀ k, k < X 1 → va_up lf b (lf b - 1) k ≤ 30 := fun k hk => by
                      by_cases e : k = b
                      · subst e; rw [va_up_s]; have := hlf k hk; omega
                      · rw [va_up_n e]; exact hlf k hk
                    have hff := s_fr_tr hf (s_fr_w hf2 (lo' := 230) (hi' := 233) (by omega) (by omega))
                    have hM2 := m_R_fr hM1 hf2 (Or.inl (by omega))
                    have hW1 : x_lw X m (va_up lf b (lf b - 1)) + 1 = x_lw X m lf := by
                      refine x_sm_d (b := b) ?_ (fun i hi => ?_) _ hbo.1
                      · show (if _ then _ else _) + 1 = (if _ then _ else _)
                        rw [if_pos hbo.2.1, if_pos hbo.2.1, va_up_s]; omega
                      · show (if _ then _ else _) = (if _ then _ else _)
                        rw [va_up_n hi]
                    have hW2 : x_lw X m (va_up lf b (lf b - 1)) ≤ 600 ∧ (t + 1 ≤ 220 ∨ x_lw X m (va_up lf b (lf b - 1)) + (t + 1) ≤ 820) := by omega
                    first
                      | (refine ih (t + 1) _ left bd _ _ _ s2 hA2 hM2 hlf2 hff hbd ?_ ?_ hW2 (by omega)
                         · rw [hl]
                           refine x_ct_congr _ (fun k _ => ?_)
                           by_cases e : k = b
                           · subst e; rw [va_up_s]; exact decide_eq_decide.mpr ⟨fun _ => ⟨hbo.2.1, by omega⟩, fun _ => hbo.2⟩
                           · rw [va_up_n e]
                         · rw [← hE]; exact (x_bi_d (by omega) hbq (by omega)).symm)
                      | (refine ih (t + 1) _ (left - 1) _ _ _ _ s2 hA2 hM2 hlf2 hff (by omega) ?_ ?_ hW2 (by omega)
                         · have q := x_ct_d (K := fun k => decide (X (62 + k) = m ∧ 0 < lf k)) (K' := fun k => decide (X (62 + k) = m ∧ 0 < va_up lf b (lf b - 1) k)) (b := b) (n := X 1) (decide_eq_true hbo.2) (decide_eq_false (by rw [va_up_s]; omega)) (fun i hi => by show decide _ = decide _; rw [va_up_n hi]) hbo.1
                           unfold x_ln at hl ⊢
                           omega
                         · rw [← hE]; exact (x_bi_e (by omega) hbq (by omega)).symm)
                  · refine n_inc dX12_boundOf_293 rfl (n_dec (by omega)) (by decide) rfl ?_
                    refine r_iload_n dX12_boundOf_296 rfl rfl ?_
                    refine r_iload dX12_boundOf_297 rfl ?_
                    refine n_const 1 dX12_boundOf_299 (by decide) ?_
                    refine n_add dX12_boundOf_300 ?_
                    refine r_aload_n dX12_boundOf_301 rfl rfl ?_
                    refine s_getR dX12_boundOf_302 fX12_70 lysX12 rfl ?_
                    refine r_iload dX12_boundOf_305 rfl ?_
                    refine a_ld dX12_boundOf_307 rfl (by omega) (by decide) (show s2 231 b = nI (x_tl X b) by rw [hf2 231 (by omega)]; exact hb3.2.1) ?_
                    refine n_add dX12_boundOf_308 ?_
                    refine r_mmax dX12_boundOf_309 kwM_X12_max kwM_static_max kwM_ini kwM_code_max (by decide) (Nat.le_of_ble_eq_true rfl) ?_
                    rw [nI_max (by omega) (by omega)]
                    refine r_istore_n dX12_boundOf_312 rfl (by decide) rfl ?_
                    refine n_inc dX12_boundOf_313 rfl (n_i1 _) (by decide) rfl ?_
                    refine r_goto (tgt := 159) dX12_boundOf_316 (by decide) ?_
                    have hA2 : m_bd X m (va_up lf b (lf b - 1)) s2 := fun k hk hkm => by
                      rw [hf2 230 (by omega), hf2 231 (by omega), hs2]
                      by_cases e : k = b
                      · subst e; rw [pk_us, va_up_s]; exact ⟨hb3.1, hb3.2.1, rfl⟩
                      · rw [pk_un e, va_up_n e]; exact hA k hk hkm
                    have hlf2 : ∀ k, k < X 1 → va_up lf b (lf b - 1) k ≤ 30 := fun k hk => by
                      by_cases e : k = b
                      · subst e; rw [va_up_s]; have := hlf k hk; omega
                      · rw [va_up_n e]; exact hlf k hk
                    have hff := s_fr_tr hf (s_fr_w hf2 (lo' := 230) (hi' := 233) (by omega) (by omega))
                    have hM2 := m_R_fr hM1 hf2 (Or.inl (by omega))
                    have hW1 : x_lw X m (va_up lf b (lf b - 1)) + 1 = x_lw X m lf := by
                      refine x_sm_d (b := b) ?_ (fun i hi => ?_) _ hbo.1
                      · show (if _ then _ else _) + 1 = (if _ then _ else _)
                        rw [if_pos hbo.2.1, if_pos hbo.2.1, va_up_s]; omega
                      · show (if _ then _ else _) = (if _ then _ else _)
                        rw [va_up_n hi]
                    have hW2 : x_lw X m (va_up lf b (lf b - 1)) ≤ 600 ∧ (t + 1 ≤ 220 ∨ x_lw X m (va_up lf b (lf b - 1)) + (t + 1) ≤ 820) := by omega
                    first
                      | (refine ih (t + 1) _ left bd _ _ _ s2 hA2 hM2 hlf2 hff hbd ?_ ?_ hW2 (by omega)
                         · rw [hl]
                           refine x_ct_congr _ (fun k _ => ?_)
                           by_cases e : k = b
                           · subst e; rw [va_up_s]; exact decide_eq_decide.mpr ⟨fun _ => ⟨hbo.2.1, by omega⟩, fun _ => hbo.2⟩
                           · rw [va_up_n e]
                         · rw [← hE]; exact (x_bi_d (by omega) hbq (by omega)).symm)
                      | (refine ih (t + 1) _ (left - 1) _ _ _ _ s2 hA2 hM2 hlf2 hff (by omega) ?_ ?_ hW2 (by omega)
                         · have q := x_ct_d (K := fun k => decide (X (62 + k) = m ∧ 0 < lf k)) (K' := fun k => decide (X (62 + k) = m ∧ 0 < va_up lf b (lf b - 1) k)) (b := b) (n := X 1) (decide_eq_true hbo.2) (decide_eq_false (by rw [va_up_s]; omega)) (fun i hi => by show decide _ = decide _; rw [va_up_n hi]) hbo.1
                           unfold x_ln at hl ⊢
                           omega
                         · rw [← hE]; exact (x_bi_e (by omega) hbq (by omega)).symm)
              · have hkb := x_hd_le (x_wf_y hw) c177
                have hop := x_op hw c177
                have hlk := hlf k c177
                have hbo := x_bh_ok _ _ hbq
                have hbo9 : b < X 1 ∧ X (62 + b) = m ∧ 0 < lf b := ⟨by omega, hbo.2⟩
                have hbb := x_hd_le (x_wf_y hw) (k := b) (by omega)
                refine r_aload_n dX12_boundOf_180 rfl rfl ?_
                refine s_getR dX12_boundOf_181 fX12_9 lysX12 rfl ?_
                refine n_bip 62 dX12_boundOf_184 (by decide) ?_
                refine r_iload dX12_boundOf_186 rfl ?_
                refine n_add dX12_boundOf_188 ?_
                refine m_ld dX12_boundOf_189 hM1 (by omega) ?_
                refine r_iload_n dX12_boundOf_190 rfl rfl ?_
                refine n_cne (tgt := 220) dX12_boundOf_191 (by decide) (by omega) (by omega) (fun c191 => ?_) (fun c191 => ?_)
                · refine n_const 0 dX12_boundOf_220 (by decide) ?_
                  refine r_istore dX12_boundOf_221 (by decide) rfl ?_
                  refine r_iload dX12_boundOf_223 rfl ?_
                  refine n_ifeq (tgt := 256) dX12_boundOf_225 (by decide) (by omega) (fun c225 => ?_) (fun c225 => ?_)
                  · refine r_iload dX12_boundOf_256 rfl ?_
                    refine r_istore dX12_boundOf_258 (by decide) rfl ?_
                    refine n_inc dX12_boundOf_260 rfl (n_i1 _) (by decide) rfl ?_
                    refine r_goto (tgt := 169) dX12_boundOf_263 (by decide) ?_
                    have q9 := fun L7 => ih3 (k + 1) L7 (by omega) (by omega)
                    first
                      | (rw [x_bh_y ⟨c191, by omega, by omega⟩ hbq, if_pos (by omega)] at q9; exact q9 _)
                      | (rw [x_bh_y ⟨c191, by omega, by omega⟩ hbq, if_neg (by omega)] at q9; exact q9 _)
                      | (rw [x_bh_no (fun z => by have z2 := z.2; omega), hbq] at q9; exact q9 _)
                      | (rw [x_bh_no (fun z => c191 z.1), hbq] at q9; exact q9 _)
                  · exact absurd c225 (by decide)
                · refine r_aload_n dX12_boundOf_194 rfl rfl ?_
                  refine s_getR dX12_boundOf_195 fX12_73 lysX12 rfl ?_
                  refine r_iload dX12_boundOf_198 rfl ?_
                  refine a_ld dX12_boundOf_200 rfl (by omega) (by decide) (hA k c177 c191).2.2 ?_
                  refine n_ifle (tgt := 220) dX12_boundOf_201 (by decide) (by omega) (fun c201 => ?_) (fun c201 => ?_)
                  · refine n_const 0 dX12_boundOf_220 (by decide) ?_
                    refine r_istore dX12_boundOf_221 (by decide) rfl ?_
                    refine r_iload dX12_boundOf_223 rfl ?_
                    refine n_ifeq (tgt := 256) dX12_boundOf_225 (by decide) (by omega) (fun c225 => ?_) (fun c225 => ?_)
                    · refine r_iload dX12_boundOf_256 rfl ?_
                      refine r_istore dX12_boundOf_258 (by decide) rfl ?_
                      refine n_inc dX12_boundOf_260 rfl (n_i1 _) (by decide) rfl ?_
                      refine r_goto (tgt := 169) dX12_boundOf_263 (by decide) ?_
                      have q9 := fun L7 => ih3 (k + 1) L7 (by omega) (by omega)
                      first
                        | (rw [x_bh_y ⟨c191, by omega, by omega⟩ hbq, if_pos (by omega)] at q9; exact q9 _)
                        | (rw [x_bh_y ⟨c191, by omega, by omega⟩ hbq, if_neg (by omega)] at q9; exact q9 _)
                        | (rw [x_bh_no (fun z => by have z2 := z.2; omega), hbq] at q9; exact q9 _)
                        | (rw [x_bh_no (fun z => c191 z.1), hbq] at q9; exact q9 _)
                    · exact absurd c225 (by decide)
                  · refine r_aload_n dX12_boundOf_204 rfl rfl ?_
                    refine s_getR dX12_boundOf_205 fX12_67 lysX12 rfl ?_
                    refine r_iload dX12_boundOf_208 rfl ?_
                    refine a_ld dX12_boundOf_210 rfl (by omega) (by decide) (hA k c177 c191).1 ?_
                    refine r_iload dX12_boundOf_211 rfl ?_
                    refine n_cgt (tgt := 220) dX12_boundOf_213 (by decide) (by omega) (by omega) (fun c213 => ?_) (fun c213 => ?_)
                    · refine n_const 0 dX12_boundOf_220 (by decide) ?_
                      refine r_istore dX12_boundOf_221 (by decide) rfl ?_
                      refine r_iload dX12_boundOf_223 rfl ?_
                      refine n_ifeq (tgt := 256) dX12_boundOf_225 (by decide) (by omega) (fun c225 => ?_) (fun c225 => ?_)
                      · refine r_iload dX12_boundOf_256 rfl ?_
                        refine r_istore dX12_boundOf_258 (by decide) rfl ?_
                        refine n_inc dX12_boundOf_260 rfl (n_i1 _) (by decide) rfl ?_
                        refine r_goto (tgt := 169) dX12_boundOf_263 (by decide) ?_
                        have q9 := fun L7 => ih3 (k + 1) L7 (by omega) (by omega)
                        first
                          | (rw [x_bh_y ⟨c191, by omega, by omega⟩ hbq, if_pos (by omega)] at q9; exact q9 _)
                          | (rw [x_bh_y ⟨c191, by omega, by omega⟩ hbq, if_neg (by omega)] at q9; exact q9 _)
                          | (rw [x_bh_no (fun z => by have z2 := z.2; omega), hbq] at q9; exact q9 _)
                          | (rw [x_bh_no (fun z => c191 z.1), hbq] at q9; exact q9 _)
                      · exact absurd c225 (by decide)
                    · refine n_const 1 dX12_boundOf_216 (by decide) ?_
                      refine r_goto (tgt := 221) dX12_boundOf_217 (by decide) ?_
                      refine r_istore dX12_boundOf_221 (by decide) rfl ?_
                      refine r_iload dX12_boundOf_223 rfl ?_
                      refine n_ifeq (tgt := 256) dX12_boundOf_225 (by decide) (by omega) (fun c225 => ?_) (fun c225 => ?_)
                      · exact absurd c225 (by decide)
                      · refine r_iload dX12_boundOf_228 rfl ?_
                        refine r_iconst (v := -1) dX12_boundOf_230 (by decide) ?_
                        refine r_icmp_eq (tgt := 251) dX12_boundOf_231 (by decide) (fun c231 => ?_) (fun c231 => ?_)
                        · exact absurd c231 (nI_m1 (by omega))
                        · refine r_aload_n dX12_boundOf_234 rfl rfl ?_
                          refine s_getR dX12_boundOf_235 fX12_70 lysX12 rfl ?_
                          refine r_iload dX12_boundOf_238 rfl ?_
                          refine a_ld dX12_boundOf_240 rfl (by omega) (by decide) (hA k c177 c191).2.1 ?_
                          refine r_aload_n dX12_boundOf_241 rfl rfl ?_
                          refine s_getR dX12_boundOf_242 fX12_70 lysX12 rfl ?_
                          refine r_iload dX12_boundOf_245 rfl ?_
                          refine a_ld dX12_boundOf_247 rfl (by omega) (by decide) (hA b hbo9.1 hbo9.2.1).2.1 ?_
                          refine n_cle (tgt := 256) dX12_boundOf_248 (by decide) (by omega) (by omega) (fun c248 => ?_) (fun c248 => ?_)
                          · refine r_iload dX12_boundOf_256 rfl ?_
                            refine r_istore dX12_boundOf_258 (by decide) rfl ?_
                            refine n_inc dX12_boundOf_260 rfl (n_i1 _) (by decide) rfl ?_
                            refine r_goto (tgt := 169) dX12_boundOf_263 (by decide) ?_
                            have q9 := fun L7 => ih3 (k + 1) L7 (by omega) (by omega)
                            first
                              | (rw [x_bh_y ⟨c191, by omega, by omega⟩ hbq, if_pos (by omega)] at q9; exact q9 _)
                              | (rw [x_bh_y ⟨c191, by omega, by omega⟩ hbq, if_neg (by omega)] at q9; exact q9 _)
                              | (rw [x_bh_no (fun z => by have z2 := z.2; omega), hbq] at q9; exact q9 _)
                              | (rw [x_bh_no (fun z => c191 z.1), hbq] at q9; exact q9 _)
                          · refine r_iload dX12_boundOf_251 rfl ?_
                            refine r_goto (tgt := 258) dX12_boundOf_253 (by decide) ?_
                            refine r_istore dX12_boundOf_258 (by decide) rfl ?_
                            refine n_inc dX12_boundOf_260 rfl (n_i1 _) (by decide) rfl ?_
                            refine r_goto (tgt := 169) dX12_boundOf_263 (by decide) ?_
                            have q9 := fun L7 => ih3 (k + 1) L7 (by omega) (by omega)
                            first
                              | (rw [x_bh_y ⟨c191, by omega, by omega⟩ hbq, if_pos (by omega)] at q9; exact q9 _)
                              | (rw [x_bh_y ⟨c191, by omega, by omega⟩ hbq, if_neg (by omega)] at q9; exact q9 _)
                              | (rw [x_bh_no (fun z => by have z2 := z.2; omega), hbq] at q9; exact q9 _)
                              | (rw [x_bh_no (fun z => c191 z.1), hbq] at q9; exact q9 _)
        exact l3 (X 1 + 1) 0 _ (by omega) (by omega)
  have lA : ∀ f i (L4 : Option Value) (L5 : Option Value) (L6 : Option Value) s1, (∀ p, p < i → s1 230 (X (183 + 5 * m + p)) = nI (x_hd X (X (183 + 5 * m + p))) ∧ s1 231 (X (183 + 5 * m + p)) = nI (x_tl X (X (183 + 5 * m + p))) ∧ s1 232 (X (183 + 5 * m + p)) = nI (X (82 + X (183 + 5 * m + p)))) → s_fr 230 233 s s1 → i ≤ X (179 + m) → X (179 + m) < i + f → s_W G mX12_boundOf 5 0 0 (c_I (fun y9 s1 => y9 = nI (x_bd X m) ∧ s_fr 230 233 s s1)) 4 [some (.ref 212), some (.int (nI m)), some (.int (nI i)), some (.int (nI i)), L4, L5, L6, none] [] s1 := by
    intro f
    induction f with
    | zero =>
      intro i L4 L5 L6 s1 hA hf hi hme
      exact absurd hme (by omega)
    | succ f ih =>
      intro i L4 L5 L6 s1 hA hf hi hme
      have hM1 := m_R_fr hM hf (Or.inl (by omega))
      refine r_iload_n dX12_boundOf_4 rfl rfl ?_
      refine r_aload_n dX12_boundOf_5 rfl rfl ?_
      refine s_getR dX12_boundOf_6 fX12_9 lysX12 rfl ?_
      refine n_sip 179 dX12_boundOf_9 (by decide) ?_
      refine r_iload_n dX12_boundOf_12 rfl rfl ?_
      refine n_add dX12_boundOf_13 ?_
      refine m_ld dX12_boundOf_14 hM1 (by omega) ?_
      refine n_cge (tgt := 154) dX12_boundOf_15 (by decide) (by omega) (by omega) (fun c15 => ?_) (fun c15 => ?_)
      · refine n_const 0 dX12_boundOf_154 (by decide) ?_
        refine r_istore_n dX12_boundOf_155 rfl (by decide) rfl ?_
        refine n_const 0 dX12_boundOf_156 (by decide) ?_
        refine r_istore dX12_boundOf_157 (by decide) rfl ?_
        have e9 : i = X (179 + m) := by omega
        subst e9
        refine lB 1000 0 (fun k => X (82 + k)) _ 0 _ _ _ s1 (fun k hk hkm => ?_) hM1 (fun k hk => (x_op hw hk).2.2.2.2.2.2.2.2.1) hf (by omega) ?_ (by rw [hE0]; rfl) ⟨?_, Or.inl (by omega)⟩ (by omega)
        · obtain ⟨p, p1, p2⟩ := x_pos hw hk
          rw [hkm] at p1 p2
          have q := hA p p1
          rw [p2] at q
          exact q
        · rw [← x_om_n hw hm]
          refine x_ct_congr _ (fun k hk => ?_)
          exact decide_eq_decide.mpr ⟨fun q => ⟨q, (x_op hw hk).2.2.2.2.2.2.2.1⟩, fun q => q.1⟩
        · have := x_sm_le (f := fun k => if X (62 + k) = m then (fun k => X (82 + k)) k else 0) (B := 30) (X 1) (fun k hk => by
            show (if _ then _ else _) ≤ _
            have := (x_op hw hk).2.2.2.2.2.2.2.2.1
            split <;> omega)
          unfold x_lw
          omega
      · refine r_aload_n dX12_boundOf_18 rfl rfl ?_
        refine r_iload_n dX12_boundOf_19 rfl rfl ?_
        refine r_iload_n dX12_boundOf_20 rfl rfl ?_
        refine s_V2I mX12_ordered dX12_boundOf_21 okX12_ordered lX12_142 npX12_ordered lysX12 rfl (by decide) (by decide) (by decide) (Nat.le_of_ble_eq_true rfl) (Nat.le_of_ble_eq_true rfl) (c_ordered hM1 (by omega) (by omega)) (fun x s1 hq => ?_)
        obtain ⟨rfl, rfl⟩ := hq
        have hod := x_od hw hm c15
        obtain ⟨k, hk9⟩ : ∃ k, X (183 + 5 * m + i) = k := ⟨_, rfl⟩
        rw [hk9] at hod ⊢
        have hop := x_op hw hod.1
        have hrs := x_rs_tl (x_wf_y hw) hod.1
        have hne : ∀ p, p < i → X (183 + 5 * m + p) ≠ k := fun p hp z => by
          have := x_od1 hw hm (p := p) (p' := i) (by omega) c15 (by rw [z, hk9])
          omega
        refine r_istore dX12_boundOf_24 (by decide) rfl ?_
        refine r_aload_n dX12_boundOf_26 rfl rfl ?_
        refine s_getR dX12_boundOf_27 fX12_9 lysX12 rfl ?_
        refine n_bip 42 dX12_boundOf_30 (by decide) ?_
        refine r_iload dX12_boundOf_32 rfl ?_
        refine n_add dX12_boundOf_34 ?_
        refine m_ld dX12_boundOf_35 hM1 (by omega) ?_
        refine r_istore dX12_boundOf_36 (by decide) rfl ?_
        refine r_aload_n dX12_boundOf_38 rfl rfl ?_
        refine s_getR dX12_boundOf_39 fX12_67 lysX12 rfl ?_
        refine r_iload dX12_boundOf_42 rfl ?_
        refine r_aload_n dX12_boundOf_44 rfl rfl ?_
        refine s_getR dX12_boundOf_45 fX12_9 lysX12 rfl ?_
        refine n_const 2 dX12_boundOf_48 (by decide) ?_
        refine r_iload dX12_boundOf_49 rfl ?_
        refine n_add dX12_boundOf_51 ?_
        refine m_ld dX12_boundOf_52 hM1 (by omega) ?_
        refine a_st dX12_boundOf_53 rfl (by omega) (by decide) (fun s2 hs2 hf2 => ?_)
        refine r_aload_n dX12_boundOf_54 rfl rfl ?_
        refine s_getR dX12_boundOf_55 fX12_70 lysX12 rfl ?_
        refine r_iload dX12_boundOf_58 rfl ?_
        refine r_aload_n dX12_boundOf_60 rfl rfl ?_
        refine r_iload dX12_boundOf_61 rfl ?_
        refine s_V1I mX12_restOf dX12_boundOf_63 okX12_restOf lX12_232 npX12_restOf lysX12 rfl (by decide) (by decide) (by decide) (Nat.le_of_ble_eq_true rfl) (Nat.le_of_ble_eq_true rfl) (d_restOf (m_R_fr hM1 hf2 (Or.inl (by omega))) (x_wf_y hw) hod.1) (fun x s1 hq => ?_)
        obtain ⟨rfl, rfl⟩ := hq
        have hM1 := m_R_fr hM1 hf2 (Or.inl (by omega))
        refine r_aload_n dX12_boundOf_66 rfl rfl ?_
        refine s_getR dX12_boundOf_67 fX12_9 lysX12 rfl ?_
        refine n_bip 82 dX12_boundOf_70 (by decide) ?_
        refine r_iload dX12_boundOf_72 rfl ?_
        refine n_add dX12_boundOf_74 ?_
        refine m_ld dX12_boundOf_75 hM1 (by omega) ?_
        refine n_sub dX12_boundOf_76 (by omega) ?_
        rw [show x_rs X k - X (82 + k) = x_tl X k by omega]
        refine a_st dX12_boundOf_77 rfl (by omega) (by decide) (fun s3 hs3 hf3 => ?_)
        refine n_const 0 dX12_boundOf_78 (by decide) ?_
        refine r_istore dX12_boundOf_79 (by decide) rfl ?_
        have l2 : ∀ f2 n s4, s4 230 k = nI (X (2 + X (42 + k)) + x_wk X (X (42 + k)) 0 n) → (∀ p, p < i → s4 230 (X (183 + 5 * m + p)) = nI (x_hd X (X (183 + 5 * m + p))) ∧ s4 231 (X (183 + 5 * m + p)) = nI (x_tl X (X (183 + 5 * m + p))) ∧ s4 232 (X (183 + 5 * m + p)) = nI (X (82 + X (183 + 5 * m + p)))) → s4 231 k = nI (x_tl X k) → s_fr 230 233 s s4 → n ≤ X (122 + k) → X (122 + k) < n + f2 → s_W G mX12_boundOf 5 0 0 (c_I (fun y9 s1 => y9 = nI (x_bd X m) ∧ s_fr 230 233 s s1)) 81 [some (.ref 212), some (.int (nI m)), some (.int (nI i)), some (.int (nI i)), some (.int (nI k)), some (.int (nI (X (42 + k)))), some (.int (nI n)), none] [] s4 := by
          intro f2
          induction f2 with
          | zero =>
            intro n s4 hh hB ht9 hg hn hme
            exact absurd hme (by omega)
          | succ f2 ih2 =>
            intro n s4 hh hB ht9 hg hn hme
            have hM1 := m_R_fr hM hg (Or.inl (by omega))
            refine r_iload dX12_boundOf_81 rfl ?_
            refine r_aload_n dX12_boundOf_83 rfl rfl ?_
            refine s_getR dX12_boundOf_84 fX12_9 lysX12 rfl ?_
            refine n_bip 122 dX12_boundOf_87 (by decide) ?_
            refine r_iload dX12_boundOf_89 rfl ?_
            refine n_add dX12_boundOf_91 ?_
            refine m_ld dX12_boundOf_92 hM1 (by omega) ?_
            refine n_cge (tgt := 128) dX12_boundOf_93 (by decide) (by omega) (by omega) (fun c93 => ?_) (fun c93 => ?_)
            · refine r_aload_n dX12_boundOf_128 rfl rfl ?_
              refine s_getR dX12_boundOf_129 fX12_73 lysX12 rfl ?_
              refine r_iload dX12_boundOf_132 rfl ?_
              refine r_aload_n dX12_boundOf_134 rfl rfl ?_
              refine s_getR dX12_boundOf_135 fX12_9 lysX12 rfl ?_
              refine n_bip 82 dX12_boundOf_138 (by decide) ?_
              refine r_iload dX12_boundOf_140 rfl ?_
              refine n_add dX12_boundOf_142 ?_
              refine m_ld dX12_boundOf_143 hM1 (by omega) ?_
              refine a_st dX12_boundOf_144 rfl (by omega) (by decide) (fun s6 hs6 hf6 => ?_)
              refine n_inc dX12_boundOf_145 rfl (n_i1 _) (by decide) rfl ?_
              refine n_inc dX12_boundOf_148 rfl (n_i1 _) (by decide) rfl ?_
              refine r_goto (tgt := 4) dX12_boundOf_151 (by decide) ?_
              have e9 : n = X (122 + k) := by omega
              subst e9
              refine ih (i + 1) _ _ _ s6 (fun p hp => ?_) (s_fr_tr hg (s_fr_w hf6 (by omega) (by omega))) (by omega) (by omega)
              rw [hf6 230 (by omega), hf6 231 (by omega), hs6]
              by_cases e : p = i
              · subst e
                rw [hk9, pk_us]
                exact ⟨hh, ht9, rfl⟩
              · have hp2 : p < i := by omega
                rw [← hk9] at hne
                rw [hk9] at hne
                rw [pk_un (hne p hp2)]
                exact hB p hp2
            · have hrt := x_rt hw hop.2.2.1 (i := n) (by omega)
              have hop2 := x_op hw hrt.1
              refine r_aload_n dX12_boundOf_96 rfl rfl ?_
              refine s_getR dX12_boundOf_97 fX12_67 lysX12 rfl ?_
              refine r_iload dX12_boundOf_100 rfl ?_
              refine r_dup2 dX12_boundOf_102 rfl rfl ?_
              refine a_ld dX12_boundOf_103 rfl (by omega) (by decide) hh ?_
              refine r_aload_n dX12_boundOf_104 rfl rfl ?_
              refine s_getR dX12_boundOf_105 fX12_9 lysX12 rfl ?_
              refine n_bip 82 dX12_boundOf_108 (by decide) ?_
              refine r_aload_n dX12_boundOf_110 rfl rfl ?_
              refine r_iload dX12_boundOf_111 rfl ?_
              refine r_iload dX12_boundOf_113 rfl ?_
              refine s_V2I mX12_sequence dX12_boundOf_115 okX12_sequence lX12_110 npX12_sequence lysX12 rfl (by decide) (by decide) (by decide) (Nat.le_of_ble_eq_true rfl) (Nat.le_of_ble_eq_true rfl) (c_sequence hM1 (by omega) (by omega)) (fun x s1 hq => ?_)
              obtain ⟨rfl, rfl⟩ := hq
              refine n_add dX12_boundOf_118 ?_
              refine m_ld dX12_boundOf_119 hM1 (by omega) ?_
              refine n_add dX12_boundOf_120 ?_
              refine a_st dX12_boundOf_121 rfl (by omega) (by decide) (fun s5 hs5 hf5 => ?_)
              refine n_inc dX12_boundOf_122 rfl (n_i1 _) (by decide) rfl ?_
              refine r_goto (tgt := 81) dX12_boundOf_125 (by decide) ?_
              refine ih2 (n + 1) s5 ?_ (fun p hp => ?_) ?_ (s_fr_tr hg (s_fr_w hf5 (by omega) (by omega))) (by omega) (by omega)
              · rw [hs5, pk_us, Nat.add_assoc]
                have e : x_wk X (X (42 + k)) 0 (n + 1) = x_wk X (X (42 + k)) 0 n + X (82 + X (22 + 4 * X (42 + k) + (0 + n))) := rfl
                rw [e, Nat.zero_add]
              · rw [hs5, hf5 231 (by omega), hf5 232 (by omega), pk_un (hne p hp)]; exact hB p hp
              · rw [hf5 231 (by omega)]; exact ht9
        refine l2 (X (122 + k) + 1) 0 s3 ?_ (fun p hp => ?_) ?_ (s_fr_tr hf (s_fr_tr (s_fr_w hf2 (by omega) (by omega)) (s_fr_w hf3 (by omega) (by omega)))) (by omega) (by omega)
        · rw [hf3 230 (by omega), hs2, pk_us]; rfl
        · rw [hf3 230 (by omega), hs2, hs3, hf3 232 (by omega), hf2 232 (by omega), hf2 231 (by omega), pk_un (hne p hp), pk_un (hne p hp)]; exact hA p hp
        · rw [hs3, pk_us]
  refine n_const 0 dX12_boundOf_0 (by decide) ?_
  refine r_istore_n dX12_boundOf_1 rfl (by decide) rfl ?_
  refine n_const 0 dX12_boundOf_2 (by decide) ?_
  refine r_istore_n dX12_boundOf_3 rfl (by decide) rfl ?_
  exact lA (X (179 + m) + 1) 0 _ _ _ s (fun p hp => absurd hp (by omega)) s_fr_rf (by omega) (by omega)
