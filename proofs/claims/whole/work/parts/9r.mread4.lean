section
/-! ===== the reference: read ===== -/
/-- but for what reading changes -/
def r_K (s s1 : s_T) : Prop := (∀ j, j ≠ 3 → j ≠ 5 → j ≠ 7 → j < 30 ∨ 36 ≤ j → s1 212 j = s 212 j) ∧ ∀ k, k ≠ 212 → k ≠ 213 → k ≠ 216 → k ≠ 233 → s1 k = s k
theorem m_O_fa {z : z_T} {m : Nat} {g : Nat → Nat} {s s1 : s_T} (h : m_O z s) (hf : r_K s s1) (h5 : s1 212 5 = nI 0) (h7 : s1 212 7 = nI m) (h216 : ∀ k, k < m → s1 216 k = nI (g k)) : m_O (z_fa z m g) s1 := by
  obtain ⟨a1, a2, a3, a4, a5, a6, a7, a8, a9, a10, ⟨hu, a11, a12⟩, a13⟩ := h
  refine ⟨?_, ?_, h5, fun k hk => absurd hk (by show ¬ k < 0; omega), h7, h216, ?_, ?_, ?_, ?_, ⟨hu, a11, ?_⟩, ?_⟩
  · rw [hf.2 214 (by omega) (by omega) (by omega) (by omega)]; exact a1
  · rw [hf.1 2 (by omega) (by omega) (by omega) (by omega)]; exact a2
  · rw [hf.1 9 (by omega) (by omega) (by omega) (by omega)]; exact a7
  · rw [hf.2 217 (by omega) (by omega) (by omega) (by omega)]; exact a8
  · rw [hf.1 10 (by omega) (by omega) (by omega) (by omega)]; exact a9
  · intro m hm; rw [hf.2 220 (by omega) (by omega) (by omega) (by omega)]; exact a10 m hm
  · unfold m_H; rw [hf.1 14 (by omega) (by omega) (by omega) (by omega), hf.1 15 (by omega) (by omega) (by omega) (by omega)]; exact a12
  · rw [hf.2 225 (by omega) (by omega) (by omega) (by omega)]; exact a13
theorem m_O_rd {z : z_T} {X : x_T} {s s1 : s_T} (h : m_O z s) (hf : ∀ j, j ≠ 3 → j ≠ 5 → j < 30 ∨ 36 ≤ j → s1 212 j = s 212 j) (hf2 : ∀ k, k ≠ 212 → k ≠ 213 → k ≠ 233 → s1 k = s k) (h5 : s1 212 5 = nI 0) : m_O (va_up (z_rd z) 0 X) s1 := by
  obtain ⟨a1, a2, a3, a4, a5, a6, a7, a8, a9, a10, ⟨hu, a11, a12⟩, a13⟩ := h
  refine ⟨?_, ?_, h5, fun k hk => absurd hk (by show ¬ k < 0; omega), ?_, ?_, ?_, ?_, ?_, ?_, ⟨hu, a11, ?_⟩, ?_⟩
  · rw [hf2 214 (by omega) (by omega) (by omega)]; exact a1
  · rw [hf 2 (by omega) (by omega) (by omega)]; exact a2
  · rw [hf 7 (by omega) (by omega) (by omega)]; exact a5
  · rw [hf2 216 (by omega) (by omega) (by omega)]; exact a6
  · rw [hf 9 (by omega) (by omega) (by omega)]; exact a7
  · rw [hf2 217 (by omega) (by omega) (by omega)]; exact a8
  · rw [hf 10 (by omega) (by omega) (by omega)]; exact a9
  · intro m hm; rw [hf2 220 (by omega) (by omega) (by omega)]; exact a10 m hm
  · unfold m_H; rw [hf 14 (by omega) (by omega) (by omega), hf 15 (by omega) (by omega) (by omega)]; exact a12
  · rw [hf2 225 (by omega) (by omega) (by omega)]; exact a13
set_option maxRecDepth 20000 in
set_option maxHeartbeats 1000000 in
theorem m_read {G : q_G} {s : s_T} {z : z_T} (hz : z_wf z) (hM : m_R (z 0) s) (hO : m_O z s) : s_W G mX12_read 7 0 0 (m_P (A_read z) s) 0 (q_ent mX12_read [.ref 212]) [] s := by
  show s_W G mX12_read 7 0 0 _ 0 [some (.ref 212), none, none] [] s
  have hw := hz.1.1
  have hs := x_sz hw
  have hf : s_fr 212 234 s s := s_fr_rf
  refine r_aload_n dX12_read_0 rfl rfl ?_
  refine s_getR dX12_read_1 fX12_9 lysX12 rfl ?_
  refine n_const 0 dX12_read_4 (by decide) ?_
  refine r_aload_n dX12_read_5 rfl rfl ?_
  refine s_getR dX12_read_6 fX12_76 lysX12 rfl ?_
  refine n_const 0 dX12_read_9 (by decide) ?_
  refine n_sip 203 dX12_read_10 (by decide) ?_
  refine n_copy dX12_read_13 kwC_X12 (by decide) (Nat.le_of_ble_eq_true rfl) rfl rfl (by omega) (by omega) (by decide) (by decide) (fun s2 hs2 hf2 => ?_)
  refine r_aload_n dX12_read_16 rfl rfl ?_
  refine n_const 0 dX12_read_17 (by decide) ?_
  refine a_put dX12_read_18 gX12_282 lysX12 rfl rfl rfl (fun s3 hs3 hf3 => ?_)
  refine r_aload_n dX12_read_21 rfl rfl ?_
  refine r_iconst (v := -1) dX12_read_22 (by decide) ?_
  refine a_put dX12_read_23 gX12_292 lysX12 rfl rfl rfl (fun s4 hs4 hf4 => ?_)
  refine r_aload_n dX12_read_26 rfl rfl ?_
  refine r_iconst (v := -1) dX12_read_27 (by decide) ?_
  refine a_put dX12_read_28 gX12_302 lysX12 rfl rfl rfl (fun sB hs5 hf5 => ?_)
  refine n_const 0 dX12_read_31 (by decide) ?_
  refine r_istore_n dX12_read_32 rfl (by decide) rfl ?_
  refine n_const 1 dX12_read_33 (by decide) ?_
  refine r_istore_n dX12_read_34 rfl (by decide) rfl ?_
  have hB : ∀ k, k < 203 → sB 233 k = nI (z 0 k) := fun k hk => by
    rw [hf5 233 (by omega), hf4 233 (by omega), hf3 233 (by omega), hs2 k, if_pos (by omega), Nat.zero_add, Nat.sub_zero]
    exact hM k hk
  have hJ : ∀ j, j < 30 ∨ 36 ≤ j → sB 212 j = s 212 j := fun j hj => by rw [hs5, pk_un (by omega), hs4, pk_un (by omega), hs3, pk_un (by omega), hf2 212 (by omega)]
  have hKK : ∀ k, k ≠ 212 → k ≠ 233 → sB k = s k := fun k a b => by rw [hf5 k (by omega), hf4 k (by omega), hf3 k (by omega), hf2 k (by omega)]
  have hMB : m_R (z 0) sB := fun k hk => by rw [hKK 213 (by omega) (by omega)]; exact hM k hk
  have hTB : v_T (z 3) (z 2 1) sB := ⟨⟨by rw [hJ 5 (by omega)]; exact hO.2.2.1, fun k hk => by rw [hKK 215 (by omega) (by omega)]; exact hO.2.2.2.1 k hk⟩, hz.2.2.2.1.1, hz.2.2.2.1.2⟩
  replace hf : s_fr 212 234 s sB := fun k hk => hKK k (by omega) (by omega)
  replace hO : m_O z sB := by
    obtain ⟨a1, a2, a3, a4, a5, a6, a7, a8, a9, a10, ⟨hu, a11, a12⟩, a13⟩ := hO
    refine ⟨?_, ?_, ?_, ?_, ?_, ?_, ?_, ?_, ?_, ?_, ⟨hu, a11, ?_⟩, ?_⟩
    · rw [hKK 214 (by omega) (by omega)]; exact a1
    · rw [hJ 2 (by omega)]; exact a2
    · rw [hJ 5 (by omega)]; exact a3
    · rw [hKK 215 (by omega) (by omega)]; exact a4
    · rw [hJ 7 (by omega)]; exact a5
    · rw [hKK 216 (by omega) (by omega)]; exact a6
    · rw [hJ 9 (by omega)]; exact a7
    · rw [hKK 217 (by omega) (by omega)]; exact a8
    · rw [hJ 10 (by omega)]; exact a9
    · intro m hm; rw [hKK 220 (by omega) (by omega)]; exact a10 m hm
    · unfold m_H; rw [hJ 14 (by omega), hJ 15 (by omega)]; exact a12
    · rw [hKK 225 (by omega) (by omega)]; exact a13
  have fin : ∀ jj jn (L2 : Option Value) u1, v_A (z 3) (z 2 1) (z 0) jj (fun q => ¬ (q < z 2 1 ∧ z 3 q = 47) ∧ ¬ (q < z 2 1 ∧ z 3 q = 59)) u1 → v_T (z 3) (z 2 1) u1 → (∀ X1 jb st, w_ex (z 3) (z 2 1) (z 0) (jj + 1) = .inl (X1, jb, st) → jb = jn) → r_F sB u1 → jn ≤ 100 → s_W G mX12_read 7 0 0 (m_P (A_read z) s) 64 [some (.ref 212), some (.int (nI jn)), L2] [] u1 := by
    intro jj jn L2 u1 hA hT hL hF hjn
    have hn8 := hT.2.1
    rcases hA with ⟨p, f, hq5, hc0, h30, h31, hfu, hX5, ⟨h47, h59⟩, hX9⟩ | ⟨⟨q9, p9, hR9, hq80, h31, h30⟩, hYY⟩
    · have hkk := w_sq_ok _ _ _ hq5
      have hcl := w_c_le (t := z 3) (k := 5) hkk.2.2.2
      obtain ⟨f', rfl⟩ : ∃ f', f = f' + 1 := ⟨f - 1, by omega⟩
      by_cases hlt : p + w_c (z 3) (z 2 1) 5 p < z 2 1
      · have hR9 : w_fl (z 3) (z 2 1) 81 0 0 = some (p + w_c (z 3) (z 2 1) 5 p) := by
          rw [← hX5]
          exact w_fl_b hc0 hlt (by rw [w_nx_5, if_neg (fun e => h47 ⟨hlt, e⟩), if_neg (fun e => h59 ⟨hlt, e⟩)])
        refine r_aload_n dX12_read_64 rfl rfl ?_
        refine s_getI dX12_read_65 fX12_292 lysX12 rfl h31 ?_
        refine r_if_ge (tgt := 90) dX12_read_68 (by decide) (fun c68 => ?_) (fun c68 => ?_)
        · exact absurd c68 (by decide)
        · refine r_aload_n dX12_read_71 rfl rfl ?_
          refine s_getI dX12_read_72 fX12_282 lysX12 rfl h30 ?_
          refine r_aload_n dX12_read_75 rfl rfl ?_
          refine s_getI dX12_read_76 fX12_279 lysX12 rfl hT.1.1 ?_
          refine n_cge (tgt := 90) dX12_read_79 (by decide) (by omega) (by omega) (fun c79 => ?_) (fun c79 => ?_)
          · exact absurd c79 (by omega)
          · refine r_aload_n dX12_read_82 rfl rfl ?_
            refine r_aload_n dX12_read_83 rfl rfl ?_
            refine s_getI dX12_read_84 fX12_282 lysX12 rfl h30 ?_
            refine a_put dX12_read_87 gX12_292 lysX12 rfl rfl rfl (fun s5 hs5 hf5 => ?_)
            refine r_aload_n dX12_read_90 rfl rfl ?_
            refine n_const 0 dX12_read_91 (by decide) ?_
            refine a_put dX12_read_92 gX12_279 lysX12 rfl rfl rfl (fun s6 hs6 hf6 => ?_)
            refine r_aload_n dX12_read_95 rfl rfl ?_
            refine r_aload_n dX12_read_96 rfl rfl ?_
            refine s_getI dX12_read_97 fX12_292 lysX12 rfl (show s6 212 31 = nI (p + w_c (z 3) (z 2 1) 5 p) by rw [hs6, pk_un (by decide), hs5, pk_us]) ?_
            refine r_if_lt (tgt := 107) dX12_read_100 (by decide) (fun c100 => ?_) (fun c100 => ?_)
            · exact absurd c100 (nI_nn2 (by omega))
            · refine n_const 1 dX12_read_103 (by decide) ?_
              refine r_goto (tgt := 120) dX12_read_104 (by decide) ?_
              refine a_put dX12_read_120 gX12_79 lysX12 rfl rfl rfl (fun s7 hs7 hf7 => ?_)
              refine r_aload_n dX12_read_123 rfl rfl ?_
              refine s_getI dX12_read_124 fX12_79 lysX12 rfl (show s7 212 3 = nI 1 by rw [hs7, pk_us]) ?_
              refine n_ifne (tgt := 132) dX12_read_127 (by decide) (by omega) (fun c127 => ?_) (fun c127 => ?_)
              · refine r_aload_n dX12_read_132 rfl rfl ?_
                refine s_getR dX12_read_133 fX12_76 lysX12 rfl ?_
                refine n_const 0 dX12_read_136 (by decide) ?_
                refine r_aload_n dX12_read_137 rfl rfl ?_
                refine s_getR dX12_read_138 fX12_9 lysX12 rfl ?_
                refine n_const 0 dX12_read_141 (by decide) ?_
                refine n_sip 203 dX12_read_142 (by decide) ?_
                refine n_copy dX12_read_145 kwC_X12 (by decide) (Nat.le_of_ble_eq_true rfl) rfl rfl (by omega) (by omega) (by decide) (by decide) (fun s8 hs8 hf8 => ?_)
                refine r_aload_n dX12_read_148 rfl rfl ?_
                refine s_getI dX12_read_149 fX12_79 lysX12 rfl (show s8 212 3 = nI 1 by rw [hf8 212 (by omega), hs7, pk_us]) ?_
                refine n_const 1 dX12_read_152 (by decide) ?_
                refine n_cne (tgt := 174) dX12_read_153 (by decide) (by omega) (by omega) (fun c153 => ?_) (fun c153 => ?_)
                · exact absurd c153 (by decide)
                · refine r_aload_n dX12_read_156 rfl rfl ?_
                  refine n_const 2 dX12_read_157 (by decide) ?_
                  refine n_const 2 dX12_read_158 (by decide) ?_
                  refine n_bip 100 dX12_read_159 (by decide) ?_
                  refine r_aload_n dX12_read_161 rfl rfl ?_
                  refine s_getI dX12_read_162 fX12_292 lysX12 rfl (show s8 212 31 = nI (p + w_c (z 3) (z 2 1) 5 p) by rw [hf8 212 (by omega), hs7, pk_un (by decide), hs6, pk_un (by decide), hs5, pk_us]) ?_
                  refine n_add dX12_read_165 ?_
                  refine n_const 0 dX12_read_166 (by decide) ?_
                  refine n_const 0 dX12_read_167 (by decide) ?_
                  refine s_V5V mX12_fail dX12_read_168 okX12_fail lX12_217 npX12_fail lysX12 rfl (by decide) (by decide) (by decide) (Nat.le_of_ble_eq_true rfl) (Nat.le_of_ble_eq_true rfl) c_fail (fun s1 hq => ?_)
                  obtain ⟨y1, y2, y3⟩ := hq
                  refine r_goto (tgt := 210) dX12_read_171 (by decide) ?_
                  refine n_const 0 dX12_read_210 (by decide) ?_
                  refine s_iret dX12_read_211 rfl rfl ?_
                  have k9 : r_K sB s1 := ⟨fun j a b c d => by rw [y1, pk_un c, hf8 212 (by omega), hs7, pk_un a, hs6, pk_un b, hs5, pk_un (by omega), hF.1 j d], fun k a b c d => by rw [y3 k a c, hf8 k (by omega), hf7 k (by omega), hf6 k (by omega), hf5 k (by omega), hF.2 k a b]⟩
                  refine m_P_i (A_read_f hR9) (fun z9 => by cases z9) ?_ ?_ (m_O_fa hO k9 ?_ ?_ (fun k hk => ?_)) (s_fr_tr hf (fun k hk => k9.2 k (by omega) (by omega) (by omega) (by omega)))
                  · rw [y1, pk_un (by decide), hf8 212 (by omega), hs7, pk_us]
                  · intro k hk
                    rw [y3 213 (by omega) (by omega), hs8 k, if_pos (by omega), Nat.zero_add, Nat.sub_zero, hf7 233 (by omega), hf6 233 (by omega), hf5 233 (by omega), hF.2 233 (by omega) (by omega)]
                    exact hB k hk
                  · rw [y1, pk_un (by decide), hf8 212 (by omega), hs7, pk_un (by decide), hs6, pk_us]
                  · rw [y1, pk_us]
                  · rcases (show k = 0 ∨ k = 1 by omega) with rfl | rfl
                    · rw [y2.1]; rfl
                    · rw [y2.2.1]; rfl
              · exact absurd c127 (by decide)
      · have hR9 : w_fl (z 3) (z 2 1) 81 0 0 = none := by
          rw [← hX5]
          exact w_fl_n hc0 hlt rfl
        have hM9 := w_M_eq hn8 hq5 hlt
        have hJ0 : w_M (z 3) (z 2 1) / 3 = jj + 1 := by omega
        have hok := w_ex_ok (t := z 3) (n := z 2 1) (z_gd hz) (jj + 1)
        rcases hX9 with ⟨X1, jb, st, he, hM, g33⟩ | ⟨w, Y, he, hM, hgY, g33, g34, g35⟩
        · have hlk := hL X1 jb st he
          have hJ9 : w_ex (z 3) (z 2 1) (z 0) (w_M (z 3) (z 2 1) / 3) = .inl (X1, jb, st) := by rw [hJ0]; exact he
          refine r_aload_n dX12_read_64 rfl rfl ?_
          refine s_getI dX12_read_65 fX12_292 lysX12 rfl h31 ?_
          refine r_if_ge (tgt := 90) dX12_read_68 (by decide) (fun c68 => ?_) (fun c68 => ?_)
          · exact absurd c68 (by decide)
          · refine r_aload_n dX12_read_71 rfl rfl ?_
            refine s_getI dX12_read_72 fX12_282 lysX12 rfl h30 ?_
            refine r_aload_n dX12_read_75 rfl rfl ?_
            refine s_getI dX12_read_76 fX12_279 lysX12 rfl hT.1.1 ?_
            refine n_cge (tgt := 90) dX12_read_79 (by decide) (by omega) (by omega) (fun c79 => ?_) (fun c79 => ?_)
            · refine r_aload_n dX12_read_90 rfl rfl ?_
              refine n_const 0 dX12_read_91 (by decide) ?_
              refine a_put dX12_read_92 gX12_279 lysX12 rfl rfl rfl (fun s6 hs6 hf6 => ?_)
              refine r_aload_n dX12_read_95 rfl rfl ?_
              refine r_aload_n dX12_read_96 rfl rfl ?_
              refine s_getI dX12_read_97 fX12_292 lysX12 rfl (show s6 212 31 = -1 by rw [hs6, pk_un (by decide)]; exact h31) ?_
              refine r_if_lt (tgt := 107) dX12_read_100 (by decide) (fun c100 => ?_) (fun c100 => ?_)
              · refine r_aload_n dX12_read_107 rfl rfl ?_
                refine s_getI dX12_read_108 fX12_302 lysX12 rfl (show s6 212 33 = -1 by rw [hs6, pk_un (by decide)]; exact g33) ?_
                refine r_iconst (v := -1) dX12_read_111 (by decide) ?_
                refine r_icmp_eq (tgt := 119) dX12_read_112 (by decide) (fun c112 => ?_) (fun c112 => ?_)
                · refine n_const 0 dX12_read_119 (by decide) ?_
                  refine a_put dX12_read_120 gX12_79 lysX12 rfl rfl rfl (fun s7 hs7 hf7 => ?_)
                  refine r_aload_n dX12_read_123 rfl rfl ?_
                  refine s_getI dX12_read_124 fX12_79 lysX12 rfl (show s7 212 3 = nI 0 by rw [hs7, pk_us]) ?_
                  refine n_ifne (tgt := 132) dX12_read_127 (by decide) (by omega) (fun c127 => ?_) (fun c127 => ?_)
                  · exact absurd c127 (by decide)
                  · refine r_iload_n dX12_read_130 rfl rfl ?_
                    refine s_iret dX12_read_131 rfl rfl ?_
                    refine m_P_i (A_read_l hR9 hJ9) (fun _ => ?_) ?_ ?_ (m_O_rd hO (fun j a b c => by rw [hs7, pk_un a, hs6, pk_un b, hF.1 j c]) (fun k a b c => by rw [hf7 k (by omega), hf6 k (by omega), hF.2 k a b]) (by rw [hs7, pk_un (by decide), hs6, pk_us])) (s_fr_tr hf (fun k hk => by rw [hf7 k (by omega), hf6 k (by omega), hF.2 k (by omega) (by omega)]))
                    · show nI jn = nI jb
                      rw [hlk]
                    · rw [hs7, pk_us]
                    · exact m_R_fr (m_R_fr hM hf6 (Or.inr (by omega))) hf7 (Or.inr (by omega))
                · exact absurd rfl c112
              · exact absurd (by decide) c100
            · exact absurd c79 (by omega)
        · have hJ9 : w_ex (z 3) (z 2 1) (z 0) (w_M (z 3) (z 2 1) / 3) = .inr w := by rw [hJ0]; exact he
          rw [he] at hok
          have hw1 : w.1 ≤ jj + 1 := hok.1
          have hw2 : 1 ≤ w.2.1 ∧ w.2.1 ≤ 3 := ⟨hok.2.1, hok.2.2.1⟩
          have hw3 : w.2.2 ≤ jj + 1 := hok.2.2.2
          refine r_aload_n dX12_read_64 rfl rfl ?_
          refine s_getI dX12_read_65 fX12_292 lysX12 rfl h31 ?_
          refine r_if_ge (tgt := 90) dX12_read_68 (by decide) (fun c68 => ?_) (fun c68 => ?_)
          · exact absurd c68 (by decide)
          · refine r_aload_n dX12_read_71 rfl rfl ?_
            refine s_getI dX12_read_72 fX12_282 lysX12 rfl h30 ?_
            refine r_aload_n dX12_read_75 rfl rfl ?_
            refine s_getI dX12_read_76 fX12_279 lysX12 rfl hT.1.1 ?_
            refine n_cge (tgt := 90) dX12_read_79 (by decide) (by omega) (by omega) (fun c79 => ?_) (fun c79 => ?_)
            · refine r_aload_n dX12_read_90 rfl rfl ?_
              refine n_const 0 dX12_read_91 (by decide) ?_
              refine a_put dX12_read_92 gX12_279 lysX12 rfl rfl rfl (fun s6 hs6 hf6 => ?_)
              refine r_aload_n dX12_read_95 rfl rfl ?_
              refine r_aload_n dX12_read_96 rfl rfl ?_
              refine s_getI dX12_read_97 fX12_292 lysX12 rfl (show s6 212 31 = -1 by rw [hs6, pk_un (by decide)]; exact h31) ?_
              refine r_if_lt (tgt := 107) dX12_read_100 (by decide) (fun c100 => ?_) (fun c100 => ?_)
              · refine r_aload_n dX12_read_107 rfl rfl ?_
                refine s_getI dX12_read_108 fX12_302 lysX12 rfl (show s6 212 33 = nI w.1 by rw [hs6, pk_un (by decide)]; exact g33) ?_
                refine r_iconst (v := -1) dX12_read_111 (by decide) ?_
                refine r_icmp_eq (tgt := 119) dX12_read_112 (by decide) (fun c112 => ?_) (fun c112 => ?_)
                · exact absurd c112 (nI_m1 (by omega))
                · refine n_const 2 dX12_read_115 (by decide) ?_
                  refine r_goto (tgt := 120) dX12_read_116 (by decide) ?_
                  refine a_put dX12_read_120 gX12_79 lysX12 rfl rfl rfl (fun s7 hs7 hf7 => ?_)
                  refine r_aload_n dX12_read_123 rfl rfl ?_
                  refine s_getI dX12_read_124 fX12_79 lysX12 rfl (show s7 212 3 = nI 2 by rw [hs7, pk_us]) ?_
                  refine n_ifne (tgt := 132) dX12_read_127 (by decide) (by omega) (fun c127 => ?_) (fun c127 => ?_)
                  · refine r_aload_n dX12_read_132 rfl rfl ?_
                    refine s_getR dX12_read_133 fX12_76 lysX12 rfl ?_
                    refine n_const 0 dX12_read_136 (by decide) ?_
                    refine r_aload_n dX12_read_137 rfl rfl ?_
                    refine s_getR dX12_read_138 fX12_9 lysX12 rfl ?_
                    refine n_const 0 dX12_read_141 (by decide) ?_
                    refine n_sip 203 dX12_read_142 (by decide) ?_
                    refine n_copy dX12_read_145 kwC_X12 (by decide) (Nat.le_of_ble_eq_true rfl) rfl rfl (by omega) (by omega) (by decide) (by decide) (fun s8 hs8 hf8 => ?_)
                    refine r_aload_n dX12_read_148 rfl rfl ?_
                    refine s_getI dX12_read_149 fX12_79 lysX12 rfl (show s8 212 3 = nI 2 by rw [hf8 212 (by omega), hs7, pk_us]) ?_
                    refine n_const 1 dX12_read_152 (by decide) ?_
                    refine n_cne (tgt := 174) dX12_read_153 (by decide) (by omega) (by omega) (fun c153 => ?_) (fun c153 => ?_)
                    · refine r_aload_n dX12_read_174 rfl rfl ?_
                      refine r_aload_n dX12_read_175 rfl rfl ?_
                      refine s_getI dX12_read_176 fX12_305 lysX12 rfl (show s8 212 34 = nI w.2.1 by rw [hf8 212 (by omega), hs7, pk_un (by decide), hs6, pk_un (by decide)]; exact g34) ?_
                      refine n_const 3 dX12_read_179 (by decide) ?_
                      refine n_cne (tgt := 187) dX12_read_180 (by decide) (by omega) (by omega) (fun c180 => ?_) (fun c180 => ?_)
                      · refine n_const 3 dX12_read_187 (by decide) ?_
                        refine n_const 3 dX12_read_188 (by decide) ?_
                        refine n_bip 100 dX12_read_189 (by decide) ?_
                        refine r_aload_n dX12_read_191 rfl rfl ?_
                        refine s_getI dX12_read_192 fX12_302 lysX12 rfl (show s8 212 33 = nI w.1 by rw [hf8 212 (by omega), hs7, pk_un (by decide), hs6, pk_un (by decide)]; exact g33) ?_
                        refine n_add dX12_read_195 ?_
                        refine r_aload_n dX12_read_196 rfl rfl ?_
                        refine s_getI dX12_read_197 fX12_305 lysX12 rfl (show s8 212 34 = nI w.2.1 by rw [hf8 212 (by omega), hs7, pk_un (by decide), hs6, pk_un (by decide)]; exact g34) ?_
                        refine n_bip 100 dX12_read_200 (by decide) ?_
                        refine r_aload_n dX12_read_202 rfl rfl ?_
                        refine s_getI dX12_read_203 fX12_308 lysX12 rfl (show s8 212 35 = nI w.2.2 by rw [hf8 212 (by omega), hs7, pk_un (by decide), hs6, pk_un (by decide)]; exact g35) ?_
                        refine n_add dX12_read_206 ?_
                        refine s_V5V mX12_fail dX12_read_207 okX12_fail lX12_217 npX12_fail lysX12 rfl (by decide) (by decide) (by decide) (Nat.le_of_ble_eq_true rfl) (Nat.le_of_ble_eq_true rfl) c_fail (fun s1 hq => ?_)
                        obtain ⟨y1, y2, y3⟩ := hq
                        refine n_const 0 dX12_read_210 (by decide) ?_
                        refine s_iret dX12_read_211 rfl rfl ?_
                        have k9 : r_K sB s1 := ⟨fun j a b c d => by rw [y1, pk_un c, hf8 212 (by omega), hs7, pk_un a, hs6, pk_un b, hF.1 j d], fun k a b c d => by rw [y3 k a c, hf8 k (by omega), hf7 k (by omega), hf6 k (by omega), hF.2 k a b]⟩
                        refine m_P_i (A_read_r hR9 hJ9) (fun z9 => by cases z9) ?_ ?_ (m_O_fa hO k9 ?_ ?_ (fun k hk => ?_)) (s_fr_tr hf (fun k hk => k9.2 k (by omega) (by omega) (by omega) (by omega)))
                        · rw [y1, pk_un (by decide), hf8 212 (by omega), hs7, pk_us]
                        · intro k hk
                          rw [y3 213 (by omega) (by omega), hs8 k, if_pos (by omega), Nat.zero_add, Nat.sub_zero, hf7 233 (by omega), hf6 233 (by omega), hF.2 233 (by omega) (by omega)]
                          exact hB k hk
                        · rw [y1, pk_un (by decide), hf8 212 (by omega), hs7, pk_un (by decide), hs6, pk_us]
                        · rw [y1, pk_us]
                          first
                            | rw [if_pos c180]
                            | rw [if_neg c180]
                        · have hk4 : k < 4 := by split at hk <;> omega
                          rcases (show k = 0 ∨ k = 1 ∨ k = 2 ∨ k = 3 by omega) with rfl | rfl | rfl | rfl
                          · rw [y2.1]; rfl
                          · rw [y2.2.1]; rfl
                          · rw [y2.2.2.1]; rfl
                          · rw [y2.2.2.2]; rfl
                      · refine n_const 4 dX12_read_183 (by decide) ?_
                        refine r_goto (tgt := 188) dX12_read_184 (by decide) ?_
                        refine n_const 3 dX12_read_188 (by decide) ?_
                        refine n_bip 100 dX12_read_189 (by decide) ?_
                        refine r_aload_n dX12_read_191 rfl rfl ?_
                        refine s_getI dX12_read_192 fX12_302 lysX12 rfl (show s8 212 33 = nI w.1 by rw [hf8 212 (by omega), hs7, pk_un (by decide), hs6, pk_un (by decide)]; exact g33) ?_
                        refine n_add dX12_read_195 ?_
                        refine r_aload_n dX12_read_196 rfl rfl ?_
                        refine s_getI dX12_read_197 fX12_305 lysX12 rfl (show s8 212 34 = nI w.2.1 by rw [hf8 212 (by omega), hs7, pk_un (by decide), hs6, pk_un (by decide)]; exact g34) ?_
                        refine n_bip 100 dX12_read_200 (by decide) ?_
                        refine r_aload_n dX12_read_202 rfl rfl ?_
                        refine s_getI dX12_read_203 fX12_308 lysX12 rfl (show s8 212 35 = nI w.2.2 by rw [hf8 212 (by omega), hs7, pk_un (by decide), hs6, pk_un (by decide)]; exact g35) ?_
                        refine n_add dX12_read_206 ?_
                        refine s_V5V mX12_fail dX12_read_207 okX12_fail lX12_217 npX12_fail lysX12 rfl (by decide) (by decide) (by decide) (Nat.le_of_ble_eq_true rfl) (Nat.le_of_ble_eq_true rfl) c_fail (fun s1 hq => ?_)
                        obtain ⟨y1, y2, y3⟩ := hq
                        refine n_const 0 dX12_read_210 (by decide) ?_
                        refine s_iret dX12_read_211 rfl rfl ?_
                        have k9 : r_K sB s1 := ⟨fun j a b c d => by rw [y1, pk_un c, hf8 212 (by omega), hs7, pk_un a, hs6, pk_un b, hF.1 j d], fun k a b c d => by rw [y3 k a c, hf8 k (by omega), hf7 k (by omega), hf6 k (by omega), hF.2 k a b]⟩
                        refine m_P_i (A_read_r hR9 hJ9) (fun z9 => by cases z9) ?_ ?_ (m_O_fa hO k9 ?_ ?_ (fun k hk => ?_)) (s_fr_tr hf (fun k hk => k9.2 k (by omega) (by omega) (by omega) (by omega)))
                        · rw [y1, pk_un (by decide), hf8 212 (by omega), hs7, pk_us]
                        · intro k hk
                          rw [y3 213 (by omega) (by omega), hs8 k, if_pos (by omega), Nat.zero_add, Nat.sub_zero, hf7 233 (by omega), hf6 233 (by omega), hF.2 233 (by omega) (by omega)]
                          exact hB k hk
                        · rw [y1, pk_un (by decide), hf8 212 (by omega), hs7, pk_un (by decide), hs6, pk_us]
                        · rw [y1, pk_us]
                          first
                            | rw [if_pos c180]
                            | rw [if_neg c180]
                        · have hk4 : k < 4 := by split at hk <;> omega
                          rcases (show k = 0 ∨ k = 1 ∨ k = 2 ∨ k = 3 by omega) with rfl | rfl | rfl | rfl
                          · rw [y2.1]; rfl
                          · rw [y2.2.1]; rfl
                          · rw [y2.2.2.1]; rfl
                          · rw [y2.2.2.2]; rfl
                    · exact absurd c153 (by decide)
                  · exact absurd c127 (by decide)
              · exact absurd (by decide) c100
            · exact absurd c79 (by omega)
    · refine r_aload_n dX12_read_64 rfl rfl ?_
      refine s_getI dX12_read_65 fX12_292 lysX12 rfl h31 ?_
      refine r_if_ge (tgt := 90) dX12_read_68 (by decide) (fun c68 => ?_) (fun c68 => ?_)
      · refine r_aload_n dX12_read_90 rfl rfl ?_
        refine n_const 0 dX12_read_91 (by decide) ?_
        refine a_put dX12_read_92 gX12_279 lysX12 rfl rfl rfl (fun s6 hs6 hf6 => ?_)
        refine r_aload_n dX12_read_95 rfl rfl ?_
        refine r_aload_n dX12_read_96 rfl rfl ?_
        refine s_getI dX12_read_97 fX12_292 lysX12 rfl (show s6 212 31 = nI q9 by rw [hs6, pk_un (by decide)]; exact h31) ?_
        refine r_if_lt (tgt := 107) dX12_read_100 (by decide) (fun c100 => ?_) (fun c100 => ?_)
        · exact absurd c100 (nI_nn2 (by omega))
        · refine n_const 1 dX12_read_103 (by decide) ?_
          refine r_goto (tgt := 120) dX12_read_104 (by decide) ?_
          refine a_put dX12_read_120 gX12_79 lysX12 rfl rfl rfl (fun s7 hs7 hf7 => ?_)
          refine r_aload_n dX12_read_123 rfl rfl ?_
          refine s_getI dX12_read_124 fX12_79 lysX12 rfl (show s7 212 3 = nI 1 by rw [hs7, pk_us]) ?_
          refine n_ifne (tgt := 132) dX12_read_127 (by decide) (by omega) (fun c127 => ?_) (fun c127 => ?_)
          · refine r_aload_n dX12_read_132 rfl rfl ?_
            refine s_getR dX12_read_133 fX12_76 lysX12 rfl ?_
            refine n_const 0 dX12_read_136 (by decide) ?_
            refine r_aload_n dX12_read_137 rfl rfl ?_
            refine s_getR dX12_read_138 fX12_9 lysX12 rfl ?_
            refine n_const 0 dX12_read_141 (by decide) ?_
            refine n_sip 203 dX12_read_142 (by decide) ?_
            refine n_copy dX12_read_145 kwC_X12 (by decide) (Nat.le_of_ble_eq_true rfl) rfl rfl (by omega) (by omega) (by decide) (by decide) (fun s8 hs8 hf8 => ?_)
            refine r_aload_n dX12_read_148 rfl rfl ?_
            refine s_getI dX12_read_149 fX12_79 lysX12 rfl (show s8 212 3 = nI 1 by rw [hf8 212 (by omega), hs7, pk_us]) ?_
            refine n_const 1 dX12_read_152 (by decide) ?_
            refine n_cne (tgt := 174) dX12_read_153 (by decide) (by omega) (by omega) (fun c153 => ?_) (fun c153 => ?_)
            · exact absurd c153 (by decide)
            · refine r_aload_n dX12_read_156 rfl rfl ?_
              refine n_const 2 dX12_read_157 (by decide) ?_
              refine n_const 2 dX12_read_158 (by decide) ?_
              refine n_bip 100 dX12_read_159 (by decide) ?_
              refine r_aload_n dX12_read_161 rfl rfl ?_
              refine s_getI dX12_read_162 fX12_292 lysX12 rfl (show s8 212 31 = nI q9 by rw [hf8 212 (by omega), hs7, pk_un (by decide), hs6, pk_un (by decide)]; exact h31) ?_
              refine n_add dX12_read_165 ?_
              refine n_const 0 dX12_read_166 (by decide) ?_
              refine n_const 0 dX12_read_167 (by decide) ?_
              refine s_V5V mX12_fail dX12_read_168 okX12_fail lX12_217 npX12_fail lysX12 rfl (by decide) (by decide) (by decide) (Nat.le_of_ble_eq_true rfl) (Nat.le_of_ble_eq_true rfl) c_fail (fun s1 hq => ?_)
              obtain ⟨y1, y2, y3⟩ := hq
              refine r_goto (tgt := 210) dX12_read_171 (by decide) ?_
              refine n_const 0 dX12_read_210 (by decide) ?_
              refine s_iret dX12_read_211 rfl rfl ?_
              have k9 : r_K sB s1 := ⟨fun j a b c d => by rw [y1, pk_un c, hf8 212 (by omega), hs7, pk_un a, hs6, pk_un b, hF.1 j d], fun k a b c d => by rw [y3 k a c, hf8 k (by omega), hf7 k (by omega), hf6 k (by omega), hF.2 k a b]⟩
              refine m_P_i (A_read_f hR9) (fun z9 => by cases z9) ?_ ?_ (m_O_fa hO k9 ?_ ?_ (fun k hk => ?_)) (s_fr_tr hf (fun k hk => k9.2 k (by omega) (by omega) (by omega) (by omega)))
              · rw [y1, pk_un (by decide), hf8 212 (by omega), hs7, pk_us]
              · intro k hk
                rw [y3 213 (by omega) (by omega), hs8 k, if_pos (by omega), Nat.zero_add, Nat.sub_zero, hf7 233 (by omega), hf6 233 (by omega), hF.2 233 (by omega) (by omega)]
                exact hB k hk
              · rw [y1, pk_un (by decide), hf8 212 (by omega), hs7, pk_un (by decide), hs6, pk_us]
              · rw [y1, pk_us]
              · rcases (show k = 0 ∨ k = 1 by omega) with rfl | rfl
                · rw [y2.1]; rfl
                · rw [y2.2.1]; rfl
          · exact absurd c127 (by decide)
      · exact absurd (nI_nn (by omega)) c68
  have lp : ∀ f9 jj p0 f0 jn u1, v_T (z 3) (z 2 1) u1 → w_sq (z 3) (z 2 1) (3 * jj) = some (0, p0) → u1 212 30 = nI p0 → u1 212 31 = -1 → z 2 1 < p0 + f0 → w_fl (z 3) (z 2 1) f0 0 p0 = w_fl (z 3) (z 2 1) 81 0 0 → v_X (z 3) (z 2 1) (z 0) jj u1 → (∀ X1 jb st, w_ex (z 3) (z 2 1) (z 0) jj = .inl (X1, jb, st) → jb = jn) → r_F sB u1 → jn ≤ jj → 80 < jj + f9 → s_W G mX12_read 7 0 0 (m_P (A_read z) s) 35 [some (.ref 212), some (.int (nI jn)), some (.int (nI 1))] [] u1 := by
    intro f9
    induction f9 with
    | zero =>
      intro jj p0 f0 jn u1 hT hq0 i30 i31 if0 iX hX0 hL hF hjn hme
      have hkk := w_sq_ok _ _ _ hq0
      have hn8 := hT.2.1
      exact absurd hme (by omega)
    | succ f9 ih =>
      intro jj p0 f0 jn u1 hT hq0 i30 i31 if0 iX hX0 hL hF hjn hme
      have hn8 := hT.2.1
      have hkk := w_sq_ok _ _ _ hq0
      refine r_iload_n dX12_read_35 rfl rfl ?_
      refine n_ifeq (tgt := 64) dX12_read_36 (by decide) (by omega) (fun c36 => ?_) (fun c36 => ?_)
      · exact absurd c36 (by decide)
      · refine r_aload_n dX12_read_39 rfl rfl ?_
        refine s_getI dX12_read_40 fX12_292 lysX12 rfl i31 ?_
        refine r_if_ge (tgt := 64) dX12_read_43 (by decide) (fun c43 => ?_) (fun c43 => ?_)
        · exact absurd c43 (by decide)
        · refine r_aload_n dX12_read_46 rfl rfl ?_
          refine r_iload_n dX12_read_47 rfl rfl ?_
          refine s_V1V mX12_readJob dX12_read_48 okX12_readJob lX12_324 npX12_readJob lysX12 rfl (by decide) (by decide) (by decide) (Nat.le_of_ble_eq_true rfl) (Nat.le_of_ble_eq_true rfl) (c_readJob hT hq0 i30 i31 if0 iX hX0 hL (z_gd hz) (by omega)) (fun s1 hq => ?_)
          obtain ⟨j', hjj', hA, hL, hF1⟩ := hq
          replace hT := v_T_F hT hF1
          replace hF := r_F_tr hF hF1
          rcases hA with ⟨p, f, hq5, hc0, h30, h31, hfu, hX5, h47, hX9⟩ | ⟨⟨q9, p9, hR9, hq80, h31, h30⟩, hYY⟩
          · have hkk := w_sq_ok _ _ _ hq5
            have hcl := w_c_le (t := z 3) (k := 5) hkk.2.2.2
            refine n_inc dX12_read_51 rfl (n_i1 _) (by decide) rfl ?_
            refine r_aload_n dX12_read_54 rfl rfl ?_
            refine n_bip 59 dX12_read_55 (by decide) ?_
            refine s_V1I mX12_takes dX12_read_57 okX12_takes lX12_298 npX12_takes lysX12 rfl (by decide) (by decide) (by decide) (Nat.le_of_ble_eq_true rfl) (Nat.le_of_ble_eq_true rfl) (c_takesL (c := 59) hT h30 h31 hcl (by decide)) (fun x s1 hq => ?_)
            obtain ⟨rfl, e30, e31, -, hg2⟩ := hq
            replace hT := v_T_G hT hg2
            replace hX9 := v_X_G hX9 hg2
            replace hF := r_F_tr hF (r_F_G hg2)
            refine r_istore_n dX12_read_60 rfl (by decide) rfl ?_
            refine r_goto (tgt := 35) dX12_read_61 (by decide) ?_
            by_cases e59 : p + w_c (z 3) (z 2 1) 5 p < z 2 1 ∧ z 3 (p + w_c (z 3) (z 2 1) 5 p) = 59
            · rw [if_pos e59] at e30
              rw [decide_eq_true e59]
              have h3 : w_nx 5 (z 3 (p + w_c (z 3) (z 2 1) 5 p)) = some 0 := by rw [w_nx_5, if_neg (by omega), if_pos e59.2]
              obtain ⟨f', rfl⟩ : ∃ f', f = f' + 1 := ⟨f - 1, by omega⟩
              rw [w_fl_s hc0 e59.1 h3] at hX5
              have hq6 : w_sq (z 3) (z 2 1) (3 * (j' + 1)) = some (0, p + w_c (z 3) (z 2 1) 5 p + 1) := by
                rw [show 3 * (j' + 1) = 3 * j' + 2 + 1 by omega]
                exact w_sq_s hq5 hc0 e59.1 h3
              have hkk2 := w_sq_ok _ _ _ hq6
              exact ih (j' + 1) _ f' (jn + 1) s1 hT hq6 e30 (e31.trans h31) (by omega) hX5 hX9 hL hF (by omega) (by omega)
            · rw [if_neg e59] at e30
              rw [decide_eq_false e59]
              refine r_iload_n dX12_read_35 rfl rfl ?_
              refine b_ifeq (tgt := 64) dX12_read_36 (by decide) (fun c36 => ?_) (fun c36 => ?_)
              · exact fin j' (jn + 1) _ s1 (Or.inl ⟨p, f, hq5, hc0, e30, e31.trans h31, hfu, hX5, ⟨h47, e59⟩, hX9⟩) hT hL hF (by omega)
              · exact absurd c36 (by decide)
          · refine n_inc dX12_read_51 rfl (n_i1 _) (by decide) rfl ?_
            refine r_aload_n dX12_read_54 rfl rfl ?_
            refine n_bip 59 dX12_read_55 (by decide) ?_
            refine s_V1I mX12_takes dX12_read_57 okX12_takes lX12_298 npX12_takes lysX12 rfl (by decide) (by decide) (by decide) (Nat.le_of_ble_eq_true rfl) (Nat.le_of_ble_eq_true rfl) (c_takesD h31 hq80 h30) (fun x s1 hq => ?_)
            obtain ⟨rfl, e30, e31, -, hg2⟩ := hq
            replace hT := v_T_G hT hg2
            replace hF := r_F_tr hF (r_F_G hg2)
            refine r_istore_n dX12_read_60 rfl (by decide) rfl ?_
            refine r_goto (tgt := 35) dX12_read_61 (by decide) ?_
            refine r_iload_n dX12_read_35 rfl rfl ?_
            refine b_ifeq (tgt := 64) dX12_read_36 (by decide) (fun c36 => ?_) (fun c36 => ?_)
            · exact fin j' (jn + 1) _ s1 (Or.inr ⟨⟨q9, p9, hR9, hq80, e31.trans h31, e30⟩, v_Y_G hYY hg2⟩) hT hL hF (by omega)
            · exact absurd c36 (by decide)
  exact lp 81 0 0 81 0 sB hTB rfl (by rw [hs5, pk_un (by decide), hs4, pk_un (by decide), hs3, pk_us]) (by rw [hs5, pk_un (by decide), hs4, pk_us]) (by have := hTB.2.1; omega) rfl (Or.inl ⟨z 0, 0, 0, rfl, hMB, by rw [hs5, pk_us]⟩) (fun X1 jb st h9 => by cases h9; rfl) r_F_rf (by omega) (by omega)
end
