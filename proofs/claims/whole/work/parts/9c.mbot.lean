section
/-! ===== the reference: the shifting bottleneck procedure ===== -/
def d_F (s s1 : s_T) : Prop := (∀ j, j ≠ 21 → s1 212 j = s 212 j) ∧ ∀ k, k ≠ 212 → k ≠ 213 → k ≠ 217 → k ≠ 218 → k ≠ 219 → k ≠ 220 → k ≠ 224 → k ≠ 225 → k ≠ 226 → s1 k = s k
theorem d_F_rf {s : s_T} : d_F s s := ⟨fun _ _ => rfl, fun _ _ _ _ _ _ _ _ _ _ => rfl⟩
theorem d_F_tr {s s1 s2 : s_T} (h1 : d_F s s1) (h2 : d_F s1 s2) : d_F s s2 := ⟨fun j hj => (h2.1 j hj).trans (h1.1 j hj), fun k a b c d e f g h i => (h2.2 k a b c d e f g h i).trans (h1.2 k a b c d e f g h i)⟩
theorem d_F_b {s s1 : s_T} (h : b_F s s1) : d_F s s1 := ⟨h.1, fun k a b _ d e _ g h' i => h.2 k a b d e g h' i⟩
theorem d_F_fr {lo hi : Nat} {s s1 : s_T} (h : s_fr lo hi s s1) (hb : (213 ≤ lo ∧ hi ≤ 214) ∨ (217 ≤ lo ∧ hi ≤ 221) ∨ (224 ≤ lo ∧ hi ≤ 227)) : d_F s s1 := ⟨fun j _ => by rw [h 212 (by omega)], fun k a b c d e f g h' i => h k (by omega)⟩
theorem m_H_d {hk : Option Nat} {hu : Nat} {s s1 : s_T} (h : m_H hk hu s) (hf : ∀ j, j ≠ 21 → s1 212 j = s 212 j) : m_H hk hu s1 := by
  unfold m_H
  rw [hf 14 (by omega), hf 15 (by omega)]
  exact h
theorem m_H_fr9 {hk : Option Nat} {hu lo hi : Nat} {s s1 : s_T} (h : m_H hk hu s) (hf : s_fr lo hi s s1) (hb : 212 < lo ∨ hi ≤ 212) : m_H hk hu s1 := m_H_d h (fun j _ => by rw [hf 212 hb])
theorem m_op_up {op : Nat → Bool} {s s1 : s_T} {m : Nat} {b : Bool} (h : m_op op s) (hs : s1 220 = upd (s 220) m (bI b)) : m_op (va_up op m b) s1 := fun k hk => by
  rw [hs]
  by_cases e : k = m
  · subst e; rw [pk_us, va_up_s]
  · rw [pk_un e, va_up_n e]; exact h k hk
theorem b_op4 {X : x_T} (hw : x_wf X) {m : Nat} (hm : m < 4) : (b_st X 4).2.1 m = false := by
  have h3 := (b_st_iv hw 4 (Nat.le_refl _)).2.2
  cases hb : (b_st X 4).2.1 m with
  | false => rfl
  | true =>
    have q := (x_ct_lt2 (K := fun _ => false) (K' := (b_st X 4).2.1) 4 (fun k _ z => by cases z)).2 m hm rfl hb
    omega
theorem nI_nm {a : Nat} (h : a < 2 ^ 31) : ¬ nI a ≤ -1 := fun q => by
  rw [Int32.le_iff_toInt_le, nI_toInt h] at q
  have : (-1 : Int32).toInt = -1 := by decide
  omega
theorem nI_mx {a : Nat} (h : a < 2 ^ 31) : (if (-1 : Int32) < nI a then nI a else -1) = nI a := by
  rw [if_pos]
  rw [Int32.lt_iff_toInt_lt, nI_toInt h]
  have : (-1 : Int32).toInt = -1 := by decide
  omega
theorem m_O_sh {z : z_T} {X : x_T} {sq : Nat → Nat} {s s1 : s_T} (h : m_O z s) (hf1 : ∀ j, j ≠ 21 → j ≠ 9 → s1 212 j = s 212 j) (h9 : s1 212 9 = nI 1) (h217 : ∀ k, k < 4 → s1 217 k = nI (sq k)) (hf : ∀ k, 214 ≤ k → k ≤ 216 → s1 k = s k) (hop : m_op n0 s1) (h225 : ∀ k, k < 20 → s1 225 k = bI false) : m_O (z_sh z X sq) s1 := by
  obtain ⟨a1, a2, a3, a4, a5, a6, a7, a8, a9, a10, ⟨hu, a11, a12⟩, a13⟩ := h
  refine ⟨?_, ?_, ?_, ?_, ?_, ?_, h9, fun _ => h217, ?_, hop, ⟨hu, a11, ?_⟩, h225⟩
  · rw [hf 214 (by omega) (by omega)]; exact a1
  · rw [hf1 2 (by omega) (by omega)]; exact a2
  · rw [hf1 5 (by omega) (by omega)]; exact a3
  · rw [hf 215 (by omega) (by omega)]; exact a4
  · rw [hf1 7 (by omega) (by omega)]; exact a5
  · rw [hf 216 (by omega) (by omega)]; exact a6
  · rw [hf1 10 (by omega) (by omega)]; exact a9
  · unfold m_H; rw [hf1 14 (by omega) (by omega), hf1 15 (by omega) (by omega)]; exact a12
set_option maxRecDepth 20000 in
set_option maxHeartbeats 1000000 in
theorem m_shiftBottlenecks {G : q_G} {s : s_T} {z : z_T} (hz : z_wf z) (hM : m_R (z 0) s) (hO : m_O z s) : s_W G mX12_shiftBottlenecks 15 0 0 (m_P (A_shiftBottlenecks z) s) 0 (q_ent mX12_shiftBottlenecks [.ref 212]) [] s := by
  show s_W G mX12_shiftBottlenecks 15 0 0 _ 0 [some (.ref 212), none, none, none, none, none] [] s
  have hw := hz.1.1
  have hs := x_sz hw
  have hf : s_fr 212 234 s s := s_fr_rf
  refine r_aload_n dX12_shiftBottlenecks_0 rfl rfl ?_
  refine n_const 0 dX12_shiftBottlenecks_1 (by decide) ?_
  refine a_put dX12_shiftBottlenecks_2 gX12_79 lysX12 rfl rfl rfl (fun sB hs1 hf1 => ?_)
  have h3 := (congrFun hs1 3).trans pk_us
  have hM := m_R_fr hM hf1 (Or.inr (by omega))
  have hO := m_O_eq hO (m_eq_put hs1 hf1 (by decide))
  have hf := s_fr_tr hf (s_fr_w (lo' := 212) (hi' := 234) hf1 (by omega) (by omega))
  refine n_const 0 dX12_shiftBottlenecks_5 (by decide) ?_
  refine r_istore_n dX12_shiftBottlenecks_6 rfl (by decide) rfl ?_
  obtain ⟨hu, hu9, hH9⟩ := hO.2.2.2.2.2.2.2.2.2.2.1
  have ol : ∀ f t (L2 : Option Value) (L3 : Option Value) (L4 : Option Value) (L5 : Option Value) u1, m_R (b_st (z 0) t).1 u1 → m_op (b_st (z 0) t).2.1 u1 → m_H none hu u1 → (∀ k, k < 20 → u1 225 k = bI false) → (∀ q, q < t → u1 217 q = nI ((b_st (z 0) t).2.2 q)) → d_F sB u1 → t ≤ 4 → 4 < t + f → s_W G mX12_shiftBottlenecks 15 0 0 (m_P (A_shiftBottlenecks z) s) 27 [some (.ref 212), some (.int (nI t)), L2, L3, L4, L5] [] u1 := by
    intro f
    induction f with
    | zero =>
      intro t L2 L3 L4 L5 u1 hM hop hH h225 hsq hF ht hme
      exact absurd hme (by omega)
    | succ f ih =>
      intro t L2 L3 L4 L5 u1 hM hop hH h225 hsq hF ht hme
      have hiv := b_st_iv hw t ht
      have hwX := hiv.1.1
      refine r_iload_n dX12_shiftBottlenecks_27 rfl rfl ?_
      refine n_const 4 dX12_shiftBottlenecks_28 (by decide) ?_
      refine n_cge (tgt := 181) dX12_shiftBottlenecks_29 (by decide) (by omega) (by omega) (fun c29 => ?_) (fun c29 => ?_)
      · have e9 : t = 4 := by omega
        subst e9
        refine r_aload_n dX12_shiftBottlenecks_181 rfl rfl ?_
        refine n_const 1 dX12_shiftBottlenecks_182 (by decide) ?_
        refine a_put dX12_shiftBottlenecks_183 gX12_258 lysX12 rfl rfl rfl (fun s2 hs2 hf2 => ?_)
        refine r_aload_n dX12_shiftBottlenecks_186 rfl rfl ?_
        refine s_V0I mX12_makespanNow dX12_shiftBottlenecks_187 okX12_makespanNow lX12_188 npX12_makespanNow lysX12 rfl (by decide) (by decide) (by decide) (Nat.le_of_ble_eq_true rfl) (Nat.le_of_ble_eq_true rfl) (c_makespanNow0 (X := x_sb (z 0)) (m_R_fr hM hf2 (Or.inr (by omega))) (fun m9 hm9 => by rw [hf2 220 (by omega), hop m9 hm9, b_op4 hw hm9]) ⟨hu, hu9, by unfold m_H; rw [hs2, pk_un (by decide), pk_un (by decide)]; exact hH⟩ (x_sb_gd hw)) (fun x s1 hq => ?_)
        obtain ⟨rfl, ht9, hf8⟩ := hq
        refine s_iret dX12_shiftBottlenecks_190 rfl rfl ?_
        have g9 : ∀ j, j ≠ 21 → j ≠ 9 → s1 212 j = sB 212 j := fun j h1 h2 => by rw [hf8 212 (by omega), hs2, pk_un h2]; exact hF.1 j h1
        have g8 : ∀ k, k ≠ 212 → k ≠ 213 → k ≠ 217 → k ≠ 218 → k ≠ 219 → k ≠ 220 → k ≠ 224 → k ≠ 225 → k ≠ 226 → s1 k = sB k := fun k h1 h2 h3 h4 h5 h6 h7 h8 h9 => by rw [hf8 k (by omega), hf2 k (by omega)]; exact hF.2 k h1 h2 h3 h4 h5 h6 h7 h8 h9
        refine m_P_i rfl (fun _ => rfl) ((g9 3 (by omega) (by omega)).trans h3) (m_R_fr (m_R_fr hM hf2 (Or.inr (by omega))) hf8 (Or.inl (by omega))) (m_O_sh hO g9 ?_ ?_ (fun k h1 h2 => g8 k (by omega) (by omega) (by omega) (by omega) (by omega) (by omega) (by omega) (by omega) (by omega)) ?_ ?_) (s_fr_tr hf (fun k hk => g8 k (by omega) (by omega) (by omega) (by omega) (by omega) (by omega) (by omega) (by omega) (by omega)))
        · rw [hf8 212 (by omega), hs2, pk_us]
        · intro k hk; rw [hf8 217 (by omega), hf2 217 (by omega)]; exact hsq k hk
        · intro m9 hm9; rw [hf8 220 (by omega), hf2 220 (by omega), hop m9 hm9, b_op4 hw hm9]
        · intro k hk; rw [hf8 225 (by omega), hf2 225 (by omega)]; exact h225 k hk
        
      · have ht4 := c29
        have hvl : ∀ c9, c9 < 4 → (b_st (z 0) t).2.1 c9 = true → b_v (b_st (z 0) t).1 (b_st (z 0) t).2.1 c9 ≤ 1400 := fun c9 h1 h2 => by
          have r := x_b_ok (op := va_up (b_st (z 0) t).2.1 c9 false) hwX h1 va_up_s (by rw [b_up2 h2]; exact hiv.1.2)
          exact x_sp_bd r.2.2.1 r.2.2.2.2
        refine r_iconst (v := -1) dX12_shiftBottlenecks_32 (by decide) ?_
        refine r_istore_n dX12_shiftBottlenecks_33 rfl (by decide) rfl ?_
        refine r_iconst (v := -1) dX12_shiftBottlenecks_34 (by decide) ?_
        refine r_istore_n dX12_shiftBottlenecks_35 rfl (by decide) rfl ?_
        refine n_const 0 dX12_shiftBottlenecks_36 (by decide) ?_
        refine r_istore dX12_shiftBottlenecks_37 (by decide) rfl ?_
        have l2 : ∀ f2 m (L5 : Option Value) u1, m_R (b_st (z 0) t).1 u1 → m_op (b_st (z 0) t).2.1 u1 → m_H none hu u1 → (∀ k, k < 20 → u1 225 k = bI false) → (∀ q, q < t → u1 217 q = nI ((b_st (z 0) t).2.2 q)) → d_F sB u1 → m ≤ 4 → 4 < m + f2 → s_W G mX12_shiftBottlenecks 15 0 0 (m_P (A_shiftBottlenecks z) s) 39 [some (.ref 212), some (.int (nI t)), some (.int (oI (b_ch (b_st (z 0) t).1 (b_st (z 0) t).2.1 m))), some (.int (oI ((b_ch (b_st (z 0) t).1 (b_st (z 0) t).2.1 m).map (b_v (b_st (z 0) t).1 (b_st (z 0) t).2.1)))), some (.int (nI m)), L5] [] u1 := by
          intro f2
          induction f2 with
          | zero =>
            intro m L5 u1 hM hop hH h225 hsq hF hm hme
            exact absurd hme (by omega)
          | succ f2 ih2 =>
            intro m L5 u1 hM hop hH h225 hsq hF hm hme
            cases hbq : b_ch (b_st (z 0) t).1 (b_st (z 0) t).2.1 m with
            | none =>
              show s_W G mX12_shiftBottlenecks 15 0 0 _ 39 [some (.ref 212), some (.int (nI t)), some (.int (-1)), some (.int (-1)), some (.int (nI m)), L5] [] u1
              refine r_iload dX12_shiftBottlenecks_39 rfl ?_
              refine n_const 4 dX12_shiftBottlenecks_41 (by decide) ?_
              refine n_cge (tgt := 107) dX12_shiftBottlenecks_42 (by decide) (by omega) (by omega) (fun c42 => ?_) (fun c42 => ?_)
              · have e9 : m = 4 := by omega
                subst e9
                exact absurd hbq (by obtain ⟨c, h1, -⟩ := b_iv_ch hiv ht4; rw [h1]; exact fun z => by cases z)
              · refine r_aload_n dX12_shiftBottlenecks_45 rfl rfl ?_
                refine s_getR dX12_shiftBottlenecks_46 fX12_32 lysX12 rfl ?_
                refine r_iload dX12_shiftBottlenecks_49 rfl ?_
                refine a_zld dX12_shiftBottlenecks_51 rfl (by omega) (by decide) (hop m c42) ?_
                refine b_ifeq (tgt := 101) dX12_shiftBottlenecks_52 (by decide) (fun c52 => ?_) (fun c52 => ?_)
                · refine n_inc dX12_shiftBottlenecks_101 rfl (n_i1 _) (by decide) rfl ?_
                  refine r_goto (tgt := 39) dX12_shiftBottlenecks_104 (by decide) ?_
                  have q9 := ih2 (m + 1)
                  first
                    | (rw [b_ch_no (X := (b_st (z 0) t).1) (op := (b_st (z 0) t).2.1) (n := m) (by rw [c52]; decide), hbq] at q9; exact q9 _ u1 hM hop hH h225 hsq hF (by omega) (by omega))
                    | (rw [b_ch_n (X := (b_st (z 0) t).1) (op := (b_st (z 0) t).2.1) (n := m) c52 hbq] at q9; exact q9 _ s5 hM5 hop5 hH5 g35 hsq5 hF5 (by omega) (by omega))
                · have hvb := hvl m c42 c52
                  have hb9 := x_b_ok (op := va_up (b_st (z 0) t).2.1 m false) hwX c42 va_up_s (by rw [b_up2 c52]; exact hiv.1.2)
                  have hop0 := hop
                  refine r_aload_n dX12_shiftBottlenecks_55 rfl rfl ?_
                  refine s_getR dX12_shiftBottlenecks_56 fX12_32 lysX12 rfl ?_
                  refine r_iload dX12_shiftBottlenecks_59 rfl ?_
                  refine n_const 0 dX12_shiftBottlenecks_61 (by decide) ?_
                  refine a_zst (b := false) dX12_shiftBottlenecks_62 rfl (by omega) (by decide) (fun s2 hs2 hf2 => ?_)
                  replace hM := m_R_fr hM hf2 (Or.inl (by omega))
                  replace hop := m_op_up hop hs2
                  replace hH := m_H_fr9 hH hf2 (by omega)
                  replace h225 : ∀ k, k < 20 → s2 225 k = bI false := fun k hk => by rw [hf2 225 (by omega)]; exact h225 k hk
                  replace hsq : ∀ q, q < t → s2 217 q = nI ((b_st (z 0) t).2.2 q) := fun q hq => by rw [hf2 217 (by omega)]; exact hsq q hq
                  replace hF := d_F_tr hF (d_F_fr hf2 (by omega))
                  refine r_aload_n dX12_shiftBottlenecks_63 rfl rfl ?_
                  refine r_iload dX12_shiftBottlenecks_64 rfl ?_
                  refine s_V1V mX12_findBest dX12_shiftBottlenecks_66 okX12_findBest lX12_252 npX12_findBest lysX12 rfl (by decide) (by decide) (by decide) (Nat.le_of_ble_eq_true rfl) (Nat.le_of_ble_eq_true rfl) (c_findBest hM hop hH hu9 h225 hwX c42) (fun s1 hq => ?_)
                  obtain ⟨hM, g1, g2, g3, hF3⟩ := hq
                  rw [hb9.1] at g1
                  replace g2 := g2 _ hb9.1
                  replace hH := m_H_d hH hF3.1
                  replace hF := d_F_tr hF (d_F_b hF3)
                  have hop3 := m_op_b hop hF3
                  refine r_aload_n dX12_shiftBottlenecks_69 rfl rfl ?_
                  refine s_getR dX12_shiftBottlenecks_70 fX12_32 lysX12 rfl ?_
                  refine r_iload dX12_shiftBottlenecks_73 rfl ?_
                  refine n_const 1 dX12_shiftBottlenecks_75 (by decide) ?_
                  refine a_zst (b := true) dX12_shiftBottlenecks_76 rfl (by omega) (by decide) (fun s5 hs5 hf5 => ?_)
                  have hM5 := m_R_fr hM hf5 (Or.inl (by omega))
                  have hop5 : m_op (b_st (z 0) t).2.1 s5 := by
                    have q := m_op_up hop3 hs5
                    rw [b_up2 c52] at q
                    exact q
                  have hH5 := m_H_fr9 hH hf5 (by omega)
                  have g35 : ∀ k, k < 20 → s5 225 k = bI false := fun k hk => by rw [hf5 225 (by omega)]; exact g3 k hk
                  have hsq5 : ∀ q, q < t → s5 217 q = nI ((b_st (z 0) t).2.2 q) := fun q hq => by rw [hf5 217 (by omega), hF3.2 217 (by omega) (by omega) (by omega) (by omega) (by omega) (by omega) (by omega)]; exact hsq q hq
                  have hF5 := d_F_tr hF (d_F_fr hf5 (by omega))
                  refine r_aload_n dX12_shiftBottlenecks_77 rfl rfl ?_
                  refine s_getI dX12_shiftBottlenecks_78 fX12_246 lysX12 rfl (show s5 212 21 = nI (b_v (b_st (z 0) t).1 (b_st (z 0) t).2.1 m) by rw [hf5 212 (by omega)]; exact g1) ?_
                  refine r_iload_n dX12_shiftBottlenecks_81 rfl rfl ?_
                  refine r_icmp_le (tgt := 90) dX12_shiftBottlenecks_82 (by decide) (fun c82 => ?_) (fun c82 => ?_)
                  · exact absurd c82 (nI_nm (by omega))
                  · refine r_iload dX12_shiftBottlenecks_85 rfl ?_
                    refine r_goto (tgt := 91) dX12_shiftBottlenecks_87 (by decide) ?_
                    refine r_istore_n dX12_shiftBottlenecks_91 rfl (by decide) rfl ?_
                    refine r_iload_n dX12_shiftBottlenecks_92 rfl rfl ?_
                    refine r_aload_n dX12_shiftBottlenecks_93 rfl rfl ?_
                    refine s_getI dX12_shiftBottlenecks_94 fX12_246 lysX12 rfl (show s5 212 21 = nI (b_v (b_st (z 0) t).1 (b_st (z 0) t).2.1 m) by rw [hf5 212 (by omega)]; exact g1) ?_
                    refine r_mmax dX12_shiftBottlenecks_97 kwM_X12_max kwM_static_max kwM_ini kwM_code_max (by decide) (Nat.le_of_ble_eq_true rfl) ?_
                    rw [nI_mx (by omega)]
                    refine r_istore_n dX12_shiftBottlenecks_100 rfl (by decide) rfl ?_
                    refine n_inc dX12_shiftBottlenecks_101 rfl (n_i1 _) (by decide) rfl ?_
                    refine r_goto (tgt := 39) dX12_shiftBottlenecks_104 (by decide) ?_
                    have q9 := ih2 (m + 1)
                    first
                      | (rw [b_ch_no (X := (b_st (z 0) t).1) (op := (b_st (z 0) t).2.1) (n := m) (by rw [c52]; decide), hbq] at q9; exact q9 _ u1 hM hop hH h225 hsq hF (by omega) (by omega))
                      | (rw [b_ch_n (X := (b_st (z 0) t).1) (op := (b_st (z 0) t).2.1) (n := m) c52 hbq] at q9; exact q9 _ s5 hM5 hop5 hH5 g35 hsq5 hF5 (by omega) (by omega))
            | some c =>
              show s_W G mX12_shiftBottlenecks 15 0 0 _ 39 [some (.ref 212), some (.int (nI t)), some (.int (nI c)), some (.int (nI (b_v (b_st (z 0) t).1 (b_st (z 0) t).2.1 c))), some (.int (nI m)), L5] [] u1
              have hcb := b_ch_ok _ _ hbq
              have hcv := hvl c (by omega) hcb.2
              refine r_iload dX12_shiftBottlenecks_39 rfl ?_
              refine n_const 4 dX12_shiftBottlenecks_41 (by decide) ?_
              refine n_cge (tgt := 107) dX12_shiftBottlenecks_42 (by decide) (by omega) (by omega) (fun c42 => ?_) (fun c42 => ?_)
              · have e9 : m = 4 := by omega
                subst e9
                have hch := hbq
                have hcb := b_ch_ok _ _ hbq
                have hcb1 := hcb.1
                have hic := b_iv_c hiv hcb.1 hcb.2
                have hb9 := x_b_ok (op := (va_up (b_st (z 0) t).2.1 c false)) hwX hcb.1 va_up_s (by rw [b_up2 hcb.2]; exact hiv.1.2)
                have kl : ∀ f3 k ch u2, m_R (b_re (va_up (b_st (z 0) t).2.1 c false) (b_st (z 0) t).2.2 k (x_bX (b_st (z 0) t).1 (va_up (b_st (z 0) t).2.1 c false) c)) u2 → m_op (va_up (b_st (z 0) t).2.1 c false) u2 → m_H none hu u2 → (∀ k, k < 20 → u2 225 k = bI false) → (∀ q, q < t → u2 217 q = nI ((b_st (z 0) t).2.2 q)) → d_F sB u2 → k ≤ t → t < k + f3 → s_W G mX12_shiftBottlenecks 15 0 0 (m_P (A_shiftBottlenecks z) s) 129 [some (.ref 212), some (.int (nI t)), some (.int (nI c)), some (.int (nI (b_v (b_st (z 0) t).1 (b_st (z 0) t).2.1 c))), some (.int (nI ch)), some (.int (nI k))] [] u2 := by
                  intro f3
                  induction f3 with
                  | zero =>
                    intro k ch u2 hM hop hH h225 hsq hF hk hme
                    exact absurd hme (by omega)
                  | succ f3 ih3 =>
                    intro k ch u2 hM hop hH h225 hsq hF hk hme
                    have hre := b_re_ok hic.1.1 hic.1.2 hic.2 k hk
                    have hwX := hre.1
                    refine r_iload dX12_shiftBottlenecks_129 rfl ?_
                    refine r_iload_n dX12_shiftBottlenecks_131 rfl rfl ?_
                    refine n_cge (tgt := 168) dX12_shiftBottlenecks_132 (by decide) (by omega) (by omega) (fun c132 => ?_) (fun c132 => ?_)
                    · refine r_aload_n dX12_shiftBottlenecks_168 rfl rfl ?_
                      refine s_getR dX12_shiftBottlenecks_169 fX12_23 lysX12 rfl ?_
                      refine r_iload_n dX12_shiftBottlenecks_172 rfl rfl ?_
                      refine r_iload_n dX12_shiftBottlenecks_173 rfl rfl ?_
                      refine a_st dX12_shiftBottlenecks_174 rfl (by omega) (by decide) (fun s7 hs7 hf7 => ?_)
                      refine n_inc dX12_shiftBottlenecks_175 rfl (n_i1 _) (by decide) rfl ?_
                      refine r_goto (tgt := 27) dX12_shiftBottlenecks_178 (by decide) ?_
                      have e9 : k = t := by omega
                      subst e9
                      have hst := b_st_s hch
                      refine ih (k + 1) _ _ _ _ s7 ?_ ?_ (m_H_fr9 hH hf7 (by omega)) (fun q hq => by rw [hf7 225 (by omega)]; exact h225 q hq) ?_ (d_F_tr hF (d_F_fr hf7 (by omega))) (by omega) (by omega)
                      · rw [hst]; exact m_R_fr hM hf7 (Or.inl (by omega))
                      · rw [hst]; exact m_op_fr hop hf7 (Or.inr (by omega))
                      · rw [hst]
                        intro q hq
                        rw [hs7]
                        show _ = nI (va_up _ _ _ q)
                        by_cases e : q = k
                        · subst e; rw [pk_us, va_up_s]
                        · rw [pk_un e, va_up_n e]; exact hsq q (by omega)
                    · have hsk := hic.2 k c132
                      have hsk1 := hsk.1
                      have hb9 := x_b_ok hre.1 hsk.1 hsk.2 (x_ac_mono hre.2 (fun m9 hm9 => by by_cases e : m9 = (b_st (z 0) t).2.2 k; (· subst e; exact va_up_s); rw [va_up_n e]; exact hm9))
                      refine r_aload_n dX12_shiftBottlenecks_135 rfl rfl ?_
                      refine r_aload_n dX12_shiftBottlenecks_136 rfl rfl ?_
                      refine s_getR dX12_shiftBottlenecks_137 fX12_23 lysX12 rfl ?_
                      refine r_iload dX12_shiftBottlenecks_140 rfl ?_
                      refine a_ld dX12_shiftBottlenecks_142 rfl (by omega) (by decide) (hsq k c132) ?_
                      refine s_V1V mX12_findBest dX12_shiftBottlenecks_143 okX12_findBest lX12_252 npX12_findBest lysX12 rfl (by decide) (by decide) (by decide) (Nat.le_of_ble_eq_true rfl) (Nat.le_of_ble_eq_true rfl) (c_findBest hM hop hH hu9 h225 hwX hsk.1) (fun s1 hq => ?_)
                      obtain ⟨hM, g1, g2, g3, hF3⟩ := hq
                      rw [hb9.1] at g1
                      replace g2 := g2 _ hb9.1
                      replace hH := m_H_d hH hF3.1
                      replace hF := d_F_tr hF (d_F_b hF3)
                      have hop3 := m_op_b hop hF3
                      refine r_iload dX12_shiftBottlenecks_146 rfl ?_
                      refine r_aload_n dX12_shiftBottlenecks_148 rfl rfl ?_
                      refine r_aload_n dX12_shiftBottlenecks_149 rfl rfl ?_
                      refine s_getR dX12_shiftBottlenecks_150 fX12_23 lysX12 rfl ?_
                      refine r_iload dX12_shiftBottlenecks_153 rfl ?_
                      refine a_ld dX12_shiftBottlenecks_155 rfl (by omega) (by decide) (show s1 217 k = nI ((b_st (z 0) t).2.2 k) by rw [hF3.2 217 (by omega) (by omega) (by omega) (by omega) (by omega) (by omega) (by omega)]; exact hsq k c132) ?_
                      refine s_V1I mX12_takeBest dX12_shiftBottlenecks_156 okX12_takeBest lX12_255 npX12_takeBest lysX12 rfl (by decide) (by decide) (by decide) (Nat.le_of_ble_eq_true rfl) (Nat.le_of_ble_eq_true rfl) (c_takeBest hM hwX hsk.1 hb9.2.1 g2) (fun x s1 hq => ?_)
                      obtain ⟨rfl, hM, hf6⟩ := hq
                      replace hop := m_op_fr hop3 hf6 (Or.inr (by omega))
                      replace hH := m_H_fr9 hH hf6 (by omega)
                      replace h225 : ∀ k, k < 20 → s1 225 k = bI false := fun k hk => by rw [hf6 225 (by omega)]; exact g3 k hk
                      replace hF := d_F_tr hF (d_F_fr hf6 (by omega))
                      replace hsq : ∀ q, q < t → s1 217 q = nI ((b_st (z 0) t).2.2 q) := fun q hq => by rw [hf6 217 (by omega), hF3.2 217 (by omega) (by omega) (by omega) (by omega) (by omega) (by omega) (by omega)]; exact hsq q hq
                      refine n_add dX12_shiftBottlenecks_159 ?_
                      refine r_istore dX12_shiftBottlenecks_160 (by decide) rfl ?_
                      refine n_inc dX12_shiftBottlenecks_162 rfl (n_i1 _) (by decide) rfl ?_
                      refine r_goto (tgt := 129) dX12_shiftBottlenecks_165 (by decide) ?_
                      exact ih3 (k + 1) _ s1 hM hop hH h225 hsq hF (by omega) (by omega)
                refine r_aload_n dX12_shiftBottlenecks_107 rfl rfl ?_
                refine s_getR dX12_shiftBottlenecks_108 fX12_32 lysX12 rfl ?_
                refine r_iload_n dX12_shiftBottlenecks_111 rfl rfl ?_
                refine n_const 0 dX12_shiftBottlenecks_112 (by decide) ?_
                refine a_zst (b := false) dX12_shiftBottlenecks_113 rfl (by omega) (by decide) (fun s2 hs2 hf2 => ?_)
                replace hM := m_R_fr hM hf2 (Or.inl (by omega))
                replace hop := m_op_up hop hs2
                replace hH := m_H_fr9 hH hf2 (by omega)
                replace h225 : ∀ k, k < 20 → s2 225 k = bI false := fun k hk => by rw [hf2 225 (by omega)]; exact h225 k hk
                replace hsq : ∀ q, q < t → s2 217 q = nI ((b_st (z 0) t).2.2 q) := fun q hq => by rw [hf2 217 (by omega)]; exact hsq q hq
                replace hF := d_F_tr hF (d_F_fr hf2 (by omega))
                refine r_aload_n dX12_shiftBottlenecks_114 rfl rfl ?_
                refine r_iload_n dX12_shiftBottlenecks_115 rfl rfl ?_
                refine s_V1V mX12_findBest dX12_shiftBottlenecks_116 okX12_findBest lX12_252 npX12_findBest lysX12 rfl (by decide) (by decide) (by decide) (Nat.le_of_ble_eq_true rfl) (Nat.le_of_ble_eq_true rfl) (c_findBest hM hop hH hu9 h225 hwX hcb.1) (fun s1 hq => ?_)
                obtain ⟨hM, g1, g2, g3, hF3⟩ := hq
                rw [hb9.1] at g1
                replace g2 := g2 _ hb9.1
                replace hH := m_H_d hH hF3.1
                replace hF := d_F_tr hF (d_F_b hF3)
                have hop3 := m_op_b hop hF3
                refine r_aload_n dX12_shiftBottlenecks_119 rfl rfl ?_
                refine r_iload_n dX12_shiftBottlenecks_120 rfl rfl ?_
                refine s_V1I mX12_takeBest dX12_shiftBottlenecks_121 okX12_takeBest lX12_255 npX12_takeBest lysX12 rfl (by decide) (by decide) (by decide) (Nat.le_of_ble_eq_true rfl) (Nat.le_of_ble_eq_true rfl) (c_takeBest hM hwX hcb.1 hb9.2.1 g2) (fun x s1 hq => ?_)
                obtain ⟨rfl, hM, hf6⟩ := hq
                replace hop := m_op_fr hop3 hf6 (Or.inr (by omega))
                replace hH := m_H_fr9 hH hf6 (by omega)
                replace h225 : ∀ k, k < 20 → s1 225 k = bI false := fun k hk => by rw [hf6 225 (by omega)]; exact g3 k hk
                replace hF := d_F_tr hF (d_F_fr hf6 (by omega))
                replace hsq : ∀ q, q < t → s1 217 q = nI ((b_st (z 0) t).2.2 q) := fun q hq => by rw [hf6 217 (by omega), hF3.2 217 (by omega) (by omega) (by omega) (by omega) (by omega) (by omega) (by omega)]; exact hsq q hq
                refine r_istore dX12_shiftBottlenecks_124 (by decide) rfl ?_
                refine n_const 0 dX12_shiftBottlenecks_126 (by decide) ?_
                refine r_istore dX12_shiftBottlenecks_127 (by decide) rfl ?_
                exact kl (t + 1) 0 _ s1 hM hop hH h225 hsq hF (by omega) (by omega)
              · refine r_aload_n dX12_shiftBottlenecks_45 rfl rfl ?_
                refine s_getR dX12_shiftBottlenecks_46 fX12_32 lysX12 rfl ?_
                refine r_iload dX12_shiftBottlenecks_49 rfl ?_
                refine a_zld dX12_shiftBottlenecks_51 rfl (by omega) (by decide) (hop m c42) ?_
                refine b_ifeq (tgt := 101) dX12_shiftBottlenecks_52 (by decide) (fun c52 => ?_) (fun c52 => ?_)
                · refine n_inc dX12_shiftBottlenecks_101 rfl (n_i1 _) (by decide) rfl ?_
                  refine r_goto (tgt := 39) dX12_shiftBottlenecks_104 (by decide) ?_
                  have q9 := ih2 (m + 1)
                  first
                    | (rw [b_ch_no (X := (b_st (z 0) t).1) (op := (b_st (z 0) t).2.1) (n := m) (by rw [c52]; decide), hbq] at q9; exact q9 _ u1 hM hop hH h225 hsq hF (by omega) (by omega))
                    | (rw [b_ch_y (X := (b_st (z 0) t).1) (op := (b_st (z 0) t).2.1) (n := m) c52 hbq, if_pos (by omega)] at q9; rw [Nat.max_eq_right (by omega)]; exact q9 _ s5 hM5 hop5 hH5 g35 hsq5 hF5 (by omega) (by omega))
                    | (rw [b_ch_y (X := (b_st (z 0) t).1) (op := (b_st (z 0) t).2.1) (n := m) c52 hbq, if_neg (by omega)] at q9; rw [Nat.max_eq_left (by omega)]; exact q9 _ s5 hM5 hop5 hH5 g35 hsq5 hF5 (by omega) (by omega))
                · have hvb := hvl m c42 c52
                  have hb9 := x_b_ok (op := va_up (b_st (z 0) t).2.1 m false) hwX c42 va_up_s (by rw [b_up2 c52]; exact hiv.1.2)
                  have hop0 := hop
                  refine r_aload_n dX12_shiftBottlenecks_55 rfl rfl ?_
                  refine s_getR dX12_shiftBottlenecks_56 fX12_32 lysX12 rfl ?_
                  refine r_iload dX12_shiftBottlenecks_59 rfl ?_
                  refine n_const 0 dX12_shiftBottlenecks_61 (by decide) ?_
                  refine a_zst (b := false) dX12_shiftBottlenecks_62 rfl (by omega) (by decide) (fun s2 hs2 hf2 => ?_)
                  replace hM := m_R_fr hM hf2 (Or.inl (by omega))
                  replace hop := m_op_up hop hs2
                  replace hH := m_H_fr9 hH hf2 (by omega)
                  replace h225 : ∀ k, k < 20 → s2 225 k = bI false := fun k hk => by rw [hf2 225 (by omega)]; exact h225 k hk
                  replace hsq : ∀ q, q < t → s2 217 q = nI ((b_st (z 0) t).2.2 q) := fun q hq => by rw [hf2 217 (by omega)]; exact hsq q hq
                  replace hF := d_F_tr hF (d_F_fr hf2 (by omega))
                  refine r_aload_n dX12_shiftBottlenecks_63 rfl rfl ?_
                  refine r_iload dX12_shiftBottlenecks_64 rfl ?_
                  refine s_V1V mX12_findBest dX12_shiftBottlenecks_66 okX12_findBest lX12_252 npX12_findBest lysX12 rfl (by decide) (by decide) (by decide) (Nat.le_of_ble_eq_true rfl) (Nat.le_of_ble_eq_true rfl) (c_findBest hM hop hH hu9 h225 hwX c42) (fun s1 hq => ?_)
                  obtain ⟨hM, g1, g2, g3, hF3⟩ := hq
                  rw [hb9.1] at g1
                  replace g2 := g2 _ hb9.1
                  replace hH := m_H_d hH hF3.1
                  replace hF := d_F_tr hF (d_F_b hF3)
                  have hop3 := m_op_b hop hF3
                  refine r_aload_n dX12_shiftBottlenecks_69 rfl rfl ?_
                  refine s_getR dX12_shiftBottlenecks_70 fX12_32 lysX12 rfl ?_
                  refine r_iload dX12_shiftBottlenecks_73 rfl ?_
                  refine n_const 1 dX12_shiftBottlenecks_75 (by decide) ?_
                  refine a_zst (b := true) dX12_shiftBottlenecks_76 rfl (by omega) (by decide) (fun s5 hs5 hf5 => ?_)
                  have hM5 := m_R_fr hM hf5 (Or.inl (by omega))
                  have hop5 : m_op (b_st (z 0) t).2.1 s5 := by
                    have q := m_op_up hop3 hs5
                    rw [b_up2 c52] at q
                    exact q
                  have hH5 := m_H_fr9 hH hf5 (by omega)
                  have g35 : ∀ k, k < 20 → s5 225 k = bI false := fun k hk => by rw [hf5 225 (by omega)]; exact g3 k hk
                  have hsq5 : ∀ q, q < t → s5 217 q = nI ((b_st (z 0) t).2.2 q) := fun q hq => by rw [hf5 217 (by omega), hF3.2 217 (by omega) (by omega) (by omega) (by omega) (by omega) (by omega) (by omega)]; exact hsq q hq
                  have hF5 := d_F_tr hF (d_F_fr hf5 (by omega))
                  refine r_aload_n dX12_shiftBottlenecks_77 rfl rfl ?_
                  refine s_getI dX12_shiftBottlenecks_78 fX12_246 lysX12 rfl (show s5 212 21 = nI (b_v (b_st (z 0) t).1 (b_st (z 0) t).2.1 m) by rw [hf5 212 (by omega)]; exact g1) ?_
                  refine r_iload_n dX12_shiftBottlenecks_81 rfl rfl ?_
                  refine n_cle (tgt := 90) dX12_shiftBottlenecks_82 (by decide) (by omega) (by omega) (fun c82 => ?_) (fun c82 => ?_)
                  · refine r_iload_n dX12_shiftBottlenecks_90 rfl rfl ?_
                    refine r_istore_n dX12_shiftBottlenecks_91 rfl (by decide) rfl ?_
                    refine r_iload_n dX12_shiftBottlenecks_92 rfl rfl ?_
                    refine r_aload_n dX12_shiftBottlenecks_93 rfl rfl ?_
                    refine s_getI dX12_shiftBottlenecks_94 fX12_246 lysX12 rfl (show s5 212 21 = nI (b_v (b_st (z 0) t).1 (b_st (z 0) t).2.1 m) by rw [hf5 212 (by omega)]; exact g1) ?_
                    refine r_mmax dX12_shiftBottlenecks_97 kwM_X12_max kwM_static_max kwM_ini kwM_code_max (by decide) (Nat.le_of_ble_eq_true rfl) ?_
                    rw [nI_max (by omega) (by omega)]
                    refine r_istore_n dX12_shiftBottlenecks_100 rfl (by decide) rfl ?_
                    refine n_inc dX12_shiftBottlenecks_101 rfl (n_i1 _) (by decide) rfl ?_
                    refine r_goto (tgt := 39) dX12_shiftBottlenecks_104 (by decide) ?_
                    have q9 := ih2 (m + 1)
                    first
                      | (rw [b_ch_no (X := (b_st (z 0) t).1) (op := (b_st (z 0) t).2.1) (n := m) (by rw [c52]; decide), hbq] at q9; exact q9 _ u1 hM hop hH h225 hsq hF (by omega) (by omega))
                      | (rw [b_ch_y (X := (b_st (z 0) t).1) (op := (b_st (z 0) t).2.1) (n := m) c52 hbq, if_pos (by omega)] at q9; rw [Nat.max_eq_right (by omega)]; exact q9 _ s5 hM5 hop5 hH5 g35 hsq5 hF5 (by omega) (by omega))
                      | (rw [b_ch_y (X := (b_st (z 0) t).1) (op := (b_st (z 0) t).2.1) (n := m) c52 hbq, if_neg (by omega)] at q9; rw [Nat.max_eq_left (by omega)]; exact q9 _ s5 hM5 hop5 hH5 g35 hsq5 hF5 (by omega) (by omega))
                  · refine r_iload dX12_shiftBottlenecks_85 rfl ?_
                    refine r_goto (tgt := 91) dX12_shiftBottlenecks_87 (by decide) ?_
                    refine r_istore_n dX12_shiftBottlenecks_91 rfl (by decide) rfl ?_
                    refine r_iload_n dX12_shiftBottlenecks_92 rfl rfl ?_
                    refine r_aload_n dX12_shiftBottlenecks_93 rfl rfl ?_
                    refine s_getI dX12_shiftBottlenecks_94 fX12_246 lysX12 rfl (show s5 212 21 = nI (b_v (b_st (z 0) t).1 (b_st (z 0) t).2.1 m) by rw [hf5 212 (by omega)]; exact g1) ?_
                    refine r_mmax dX12_shiftBottlenecks_97 kwM_X12_max kwM_static_max kwM_ini kwM_code_max (by decide) (Nat.le_of_ble_eq_true rfl) ?_
                    rw [nI_max (by omega) (by omega)]
                    refine r_istore_n dX12_shiftBottlenecks_100 rfl (by decide) rfl ?_
                    refine n_inc dX12_shiftBottlenecks_101 rfl (n_i1 _) (by decide) rfl ?_
                    refine r_goto (tgt := 39) dX12_shiftBottlenecks_104 (by decide) ?_
                    have q9 := ih2 (m + 1)
                    first
                      | (rw [b_ch_no (X := (b_st (z 0) t).1) (op := (b_st (z 0) t).2.1) (n := m) (by rw [c52]; decide), hbq] at q9; exact q9 _ u1 hM hop hH h225 hsq hF (by omega) (by omega))
                      | (rw [b_ch_y (X := (b_st (z 0) t).1) (op := (b_st (z 0) t).2.1) (n := m) c52 hbq, if_pos (by omega)] at q9; rw [Nat.max_eq_right (by omega)]; exact q9 _ s5 hM5 hop5 hH5 g35 hsq5 hF5 (by omega) (by omega))
                      | (rw [b_ch_y (X := (b_st (z 0) t).1) (op := (b_st (z 0) t).2.1) (n := m) c52 hbq, if_neg (by omega)] at q9; rw [Nat.max_eq_left (by omega)]; exact q9 _ s5 hM5 hop5 hH5 g35 hsq5 hF5 (by omega) (by omega))
        exact l2 5 0 _ u1 hM hop hH h225 hsq hF (by omega) (by omega)
  have l0 : ∀ f m u1, (∀ q, q < m → u1 220 q = bI true) → s_fr 220 221 sB u1 → m ≤ 4 → 4 < m + f → s_W G mX12_shiftBottlenecks 15 0 0 (m_P (A_shiftBottlenecks z) s) 7 [some (.ref 212), some (.int (nI m)), none, none, none, none] [] u1 := by
    intro f
    induction f with
    | zero =>
      intro m u1 hA hf0 hm hme
      exact absurd hme (by omega)
    | succ f ih =>
      intro m u1 hA hf0 hm hme
      refine r_iload_n dX12_shiftBottlenecks_7 rfl rfl ?_
      refine n_const 4 dX12_shiftBottlenecks_8 (by decide) ?_
      refine n_cge (tgt := 25) dX12_shiftBottlenecks_9 (by decide) (by omega) (by omega) (fun c9 => ?_) (fun c9 => ?_)
      · refine n_const 0 dX12_shiftBottlenecks_25 (by decide) ?_
        refine r_istore_n dX12_shiftBottlenecks_26 rfl (by decide) rfl ?_
        have e9 : m = 4 := by omega
        subst e9
        exact ol 5 0 _ _ _ _ u1 (m_R_fr hM hf0 (Or.inl (by omega))) hA (m_H_fr9 hH9 hf0 (by omega)) (fun k hk => by rw [hf0 225 (by omega)]; exact hO.2.2.2.2.2.2.2.2.2.2.2 k hk) (fun q hq => absurd hq (by omega)) (d_F_fr hf0 (by omega)) (by omega) (by omega)
      · refine r_aload_n dX12_shiftBottlenecks_12 rfl rfl ?_
        refine s_getR dX12_shiftBottlenecks_13 fX12_32 lysX12 rfl ?_
        refine r_iload_n dX12_shiftBottlenecks_16 rfl rfl ?_
        refine n_const 1 dX12_shiftBottlenecks_17 (by decide) ?_
        refine a_zst (b := true) dX12_shiftBottlenecks_18 rfl (by omega) (by decide) (fun s2 hs2 hf2 => ?_)
        refine n_inc dX12_shiftBottlenecks_19 rfl (n_i1 _) (by decide) rfl ?_
        refine r_goto (tgt := 7) dX12_shiftBottlenecks_22 (by decide) ?_
        refine ih (m + 1) s2 (fun q hq => ?_) (s_fr_tr hf0 hf2) (by omega) (by omega)
        rw [hs2]
        by_cases e : q = m
        · subst e; rw [pk_us]
        · rw [pk_un e]; exact hA q (by omega)
  exact l0 5 0 sB (fun q hq => absurd hq (by omega)) s_fr_rf (by omega) (by omega)
end
