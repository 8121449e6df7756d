/-! ===== the reference's times ===== -/
def m_T (X : x_T) (K : Nat → Bool) (r t : Nat → Nat) (s : s_T) : Prop := ∀ k, k < X 1 → (K k = true → s 219 k = nI (t k) ∧ s 218 k = nI (r k)) ∧ (K k = false → s 219 k = -1)
def m_H (hk : Option Nat) (hu : Nat) (s : s_T) : Prop := s 212 14 = oI hk ∧ s 212 15 = nI hu
theorem m_H_fr {hk : Option Nat} {hu lo hi : Nat} {s s' : s_T} (h : m_H hk hu s) (hf : s_fr lo hi s s') (hb : 212 < lo ∨ hi ≤ 212) : m_H hk hu s' := by
  unfold m_H
  rw [hf 212 hb]
  exact h
theorem m_op_fr {op : Nat → Bool} {lo hi : Nat} {s s' : s_T} (h : m_op op s) (hf : s_fr lo hi s s') (hb : 220 < lo ∨ hi ≤ 220) : m_op op s' := fun m hm => by rw [hf 220 hb]; exact h m hm
theorem oI_s {q : Nat} : oI (some q) = nI q := rfl
theorem oI_n : oI none = -1 := rfl
set_option maxRecDepth 20000 in
set_option maxHeartbeats 1000000 in
theorem c_endOf {G : q_G} {s : s_T} {X : x_T} {k v : Nat} (hM : m_R X s) (hk : k < 20) (hv : s 219 k = nI v) : s_W G mX12_endOf 1 0 0 (c_I (fun y9 s1 => s1 = s ∧ y9 = nI (v + X (82 + k)))) 0 (q_ent mX12_endOf [.ref 212, .int (nI k)]) [] s := by
  show s_W G mX12_endOf 1 0 0 _ 0 [some (.ref 212), some (.int (nI k))] [] s
  refine r_aload_n dX12_endOf_0 rfl rfl ?_
  refine s_getR dX12_endOf_1 fX12_29 lysX12 rfl ?_
  refine r_iload_n dX12_endOf_4 rfl rfl ?_
  refine a_ld dX12_endOf_5 rfl (by omega) (by decide) hv ?_
  refine r_aload_n dX12_endOf_6 rfl rfl ?_
  refine s_getR dX12_endOf_7 fX12_9 lysX12 rfl ?_
  refine n_bip 82 dX12_endOf_10 (by decide) ?_
  refine r_iload_n dX12_endOf_12 rfl rfl ?_
  refine n_add dX12_endOf_13 ?_
  refine m_ld dX12_endOf_14 hM (by omega) ?_
  refine n_add dX12_endOf_15 ?_
  refine s_iret dX12_endOf_16 rfl rfl ?_
  exact ⟨_, rfl, rfl, rfl⟩
set_option maxRecDepth 20000 in
set_option maxHeartbeats 1000000 in
theorem c_isKnown0 {G : q_G} {s : s_T}  : s_W G mX12_isKnown 1 0 0 (c_I (fun y9 s1 => s1 = s ∧ y9 = bI true)) 0 (q_ent mX12_isKnown [.ref 212, .int (oI none)]) [] s := by
  show s_W G mX12_isKnown 1 0 0 _ 0 [some (.ref 212), some (.int (oI none))] [] s
  refine r_iload_n dX12_isKnown_0 rfl rfl ?_
  refine r_iconst (v := -1) dX12_isKnown_1 (by decide) ?_
  refine r_icmp_eq (tgt := 14) dX12_isKnown_2 (by decide) (fun c2 => ?_) (fun c2 => ?_)
  · refine n_const 1 dX12_isKnown_14 (by decide) ?_
    refine r_goto (tgt := 19) dX12_isKnown_15 (by decide) ?_
    refine s_iret dX12_isKnown_19 rfl rfl ?_
    exact ⟨_, rfl, rfl, rfl⟩
  · exact absurd rfl c2
set_option maxRecDepth 20000 in
set_option maxHeartbeats 1000000 in
theorem c_isKnown1 {G : q_G} {s : s_T} {q v : Nat} {b : Bool} (hq : q < 20) (hv : b = true → s 219 q = nI v) (hv2 : v < 2 ^ 31) (hv3 : b = false → s 219 q = -1) : s_W G mX12_isKnown 1 0 0 (c_I (fun y9 s1 => s1 = s ∧ y9 = bI b)) 0 (q_ent mX12_isKnown [.ref 212, .int (nI q)]) [] s := by
  show s_W G mX12_isKnown 1 0 0 _ 0 [some (.ref 212), some (.int (nI q))] [] s
  cases b with
  | true =>
    refine r_iload_n dX12_isKnown_0 rfl rfl ?_
    refine r_iconst (v := -1) dX12_isKnown_1 (by decide) ?_
    refine r_icmp_eq (tgt := 14) dX12_isKnown_2 (by decide) (fun c2 => ?_) (fun c2 => ?_)
    · exact absurd c2 (nI_m1 (by omega))
    · refine r_aload_n dX12_isKnown_5 rfl rfl ?_
      refine s_getR dX12_isKnown_6 fX12_29 lysX12 rfl ?_
      refine r_iload_n dX12_isKnown_9 rfl rfl ?_
      refine a_ld dX12_isKnown_10 rfl (by omega) (by decide) (hv rfl) ?_
      refine r_if_lt (tgt := 18) dX12_isKnown_11 (by decide) (fun c11 => ?_) (fun c11 => ?_)
      · exact absurd c11 (nI_pos hv2)
      · refine n_const 1 dX12_isKnown_14 (by decide) ?_
        refine r_goto (tgt := 19) dX12_isKnown_15 (by decide) ?_
        refine s_iret dX12_isKnown_19 rfl rfl ?_
        exact ⟨_, rfl, rfl, rfl⟩
  | false =>
    refine r_iload_n dX12_isKnown_0 rfl rfl ?_
    refine r_iconst (v := -1) dX12_isKnown_1 (by decide) ?_
    refine r_icmp_eq (tgt := 14) dX12_isKnown_2 (by decide) (fun c2 => ?_) (fun c2 => ?_)
    · exact absurd c2 (nI_m1 (by omega))
    · refine r_aload_n dX12_isKnown_5 rfl rfl ?_
      refine s_getR dX12_isKnown_6 fX12_29 lysX12 rfl ?_
      refine r_iload_n dX12_isKnown_9 rfl rfl ?_
      refine a_ld dX12_isKnown_10 rfl (by omega) (by decide) (hv3 rfl) ?_
      refine r_if_lt (tgt := 18) dX12_isKnown_11 (by decide) (fun c11 => ?_) (fun c11 => ?_)
      · refine n_const 0 dX12_isKnown_18 (by decide) ?_
        refine s_iret dX12_isKnown_19 rfl rfl ?_
        exact ⟨_, rfl, rfl, rfl⟩
      · exact absurd (by decide) c11
set_option maxRecDepth 20000 in
set_option maxHeartbeats 1000000 in
theorem c_findTime {G : q_G} {s : s_T} {X : x_T} {op : Nat → Bool} {hk : Option Nat} {hu : Nat} {K : Nat → Bool} {r t : Nat → Nat} {k : Nat} (hM : m_R X s) (hop : m_op op s) (hH : m_H hk hu s) (hw : x_wf X) (hk1 : k < X 1) (hT : m_T X K r t s) (hj : ∀ q, x_jp X k = some q → K q = true) (hm : ∀ q, x_mp X op k = some q → K q = true) (hb : ∀ q, q < X 1 → K q = true → t q ≤ 100000) (hu2 : hu ≤ 100000) (hh2 : ∀ q, hk = some q → q < 20) : s_W G mX12_findTime 4 0 0 (c_V (fun s1 => s1 218 = upd (s 218) k (nI (x_rd X op (fun q => t q + X (82 + q)) k)) ∧ s1 219 = upd (s 219) k (nI (x_sv X hk hu (x_rd X op (fun q => t q + X (82 + q)) k) k)) ∧ s_fr 218 220 s s1)) 0 (q_ent mX12_findTime [.ref 212, .int (nI k)]) [] s := by
  show s_W G mX12_findTime 4 0 0 _ 0 [some (.ref 212), some (.int (nI k)), none, none, none] [] s
  have hk2 := x_op hw hk1
  have hz := x_sz hw
  have hj2 := x_jb hw hk2.2.2.1
  have A : ∀ (tt : Nat) (L3 L4 : Option Value), tt ≤ 300000 → tt = (x_rd X op (fun q => t q + X (82 + q)) k) → s_W G mX12_findTime 4 0 0 (c_V (fun s1 => s1 218 = upd (s 218) k (nI (x_rd X op (fun q => t q + X (82 + q)) k)) ∧ s1 219 = upd (s 219) k (nI (x_sv X hk hu (x_rd X op (fun q => t q + X (82 + q)) k) k)) ∧ s_fr 218 220 s s1)) 78 [some (.ref 212), some (.int (nI k)), some (.int (nI tt)), L3, L4] [] s := by
    intro tt L3 L4 ht htt
    cases hk with
    | none =>
      refine r_aload_n dX12_findTime_78 rfl rfl ?_
      refine s_getR dX12_findTime_79 fX12_26 lysX12 rfl ?_
      refine r_iload_n dX12_findTime_82 rfl rfl ?_
      refine r_iload_n dX12_findTime_83 rfl rfl ?_
      refine a_st dX12_findTime_84 rfl (by omega) (by decide) (fun s1 hs1 hf1 => ?_)
      have hM := m_R_fr hM hf1 (by decide)
      have hH := m_H_fr hH hf1 (by decide)
      refine r_iload_n dX12_findTime_85 rfl rfl ?_
      refine r_aload_n dX12_findTime_86 rfl rfl ?_
      refine s_getI dX12_findTime_87 fX12_36 lysX12 rfl hH.1 ?_
      refine r_icmp_ne (tgt := 104) dX12_findTime_90 (by decide) (fun c90 => ?_) (fun c90 => ?_)
      · refine r_iload_n dX12_findTime_104 rfl rfl ?_
        refine r_istore_n dX12_findTime_105 rfl (by decide) rfl ?_
        refine r_aload_n dX12_findTime_106 rfl rfl ?_
        refine s_getR dX12_findTime_107 fX12_29 lysX12 rfl ?_
        refine r_iload_n dX12_findTime_110 rfl rfl ?_
        refine r_aload_n dX12_findTime_111 rfl rfl ?_
        refine r_aload_n dX12_findTime_112 rfl rfl ?_
        refine s_getR dX12_findTime_113 fX12_9 lysX12 rfl ?_
        refine n_bip 62 dX12_findTime_116 (by decide) ?_
        refine r_iload_n dX12_findTime_118 rfl rfl ?_
        refine n_add dX12_findTime_119 ?_
        refine m_ld dX12_findTime_120 hM (by omega) ?_
        refine r_iload_n dX12_findTime_121 rfl rfl ?_
        refine r_aload_n dX12_findTime_122 rfl rfl ?_
        refine s_getR dX12_findTime_123 fX12_9 lysX12 rfl ?_
        refine n_bip 82 dX12_findTime_126 (by decide) ?_
        refine r_iload_n dX12_findTime_128 rfl rfl ?_
        refine n_add dX12_findTime_129 ?_
        refine m_ld dX12_findTime_130 hM (by omega) ?_
        refine s_V3I mX12_free dX12_findTime_131 okX12_free lX12_178 npX12_free lysX12 rfl (by decide) (by decide) (by decide) (Nat.le_of_ble_eq_true rfl) (Nat.le_of_ble_eq_true rfl) (c_free hM hw hk2.2.2.2.2.2.2.1 (by omega) (by omega)) (fun x s1 hq => ?_)
        obtain ⟨rfl, rfl⟩ := hq
        refine a_st dX12_findTime_134 rfl (by omega) (by decide) (fun s2 hs2 hf2 => ?_)
        refine s_vret dX12_findTime_135 rfl ?_
        refine ⟨rfl, ?_, ?_, s_fr_tr (s_fr_w hf1 (by decide) (by decide)) (s_fr_w hf2 (by decide) (by decide))⟩
        · rw [hf2 218 (by decide), hs1, htt]
        · rw [hs2, hf1 219 (by decide)]
          congr 2
          unfold x_sv
          rw [← htt]
          rw [if_neg (fun q => by cases q)]
      · exact absurd c90 (nI_m1 (by omega))
    | some h =>
      have hh3 := hh2 h rfl
      by_cases e : h = k
      · subst e
        refine r_aload_n dX12_findTime_78 rfl rfl ?_
        refine s_getR dX12_findTime_79 fX12_26 lysX12 rfl ?_
        refine r_iload_n dX12_findTime_82 rfl rfl ?_
        refine r_iload_n dX12_findTime_83 rfl rfl ?_
        refine a_st dX12_findTime_84 rfl (by omega) (by decide) (fun s1 hs1 hf1 => ?_)
        have hM := m_R_fr hM hf1 (by decide)
        have hH := m_H_fr hH hf1 (by decide)
        refine r_iload_n dX12_findTime_85 rfl rfl ?_
        refine r_aload_n dX12_findTime_86 rfl rfl ?_
        refine s_getI dX12_findTime_87 fX12_36 lysX12 rfl hH.1 ?_
        refine r_icmp_ne (tgt := 104) dX12_findTime_90 (by decide) (fun c90 => ?_) (fun c90 => ?_)
        · exact absurd rfl c90
        · refine r_iload_n dX12_findTime_93 rfl rfl ?_
          refine r_aload_n dX12_findTime_94 rfl rfl ?_
          refine s_getI dX12_findTime_95 fX12_175 lysX12 rfl hH.2 ?_
          refine r_mmax dX12_findTime_98 kwM_X12_max kwM_static_max kwM_ini kwM_code_max (by decide) (Nat.le_of_ble_eq_true rfl) ?_
          rw [nI_max (by omega) (by omega)]
          refine r_goto (tgt := 105) dX12_findTime_101 (by decide) ?_
          refine r_istore_n dX12_findTime_105 rfl (by decide) rfl ?_
          refine r_aload_n dX12_findTime_106 rfl rfl ?_
          refine s_getR dX12_findTime_107 fX12_29 lysX12 rfl ?_
          refine r_iload_n dX12_findTime_110 rfl rfl ?_
          refine r_aload_n dX12_findTime_111 rfl rfl ?_
          refine r_aload_n dX12_findTime_112 rfl rfl ?_
          refine s_getR dX12_findTime_113 fX12_9 lysX12 rfl ?_
          refine n_bip 62 dX12_findTime_116 (by decide) ?_
          refine r_iload_n dX12_findTime_118 rfl rfl ?_
          refine n_add dX12_findTime_119 ?_
          refine m_ld dX12_findTime_120 hM (by omega) ?_
          refine r_iload_n dX12_findTime_121 rfl rfl ?_
          refine r_aload_n dX12_findTime_122 rfl rfl ?_
          refine s_getR dX12_findTime_123 fX12_9 lysX12 rfl ?_
          refine n_bip 82 dX12_findTime_126 (by decide) ?_
          refine r_iload_n dX12_findTime_128 rfl rfl ?_
          refine n_add dX12_findTime_129 ?_
          refine m_ld dX12_findTime_130 hM (by omega) ?_
          refine s_V3I mX12_free dX12_findTime_131 okX12_free lX12_178 npX12_free lysX12 rfl (by decide) (by decide) (by decide) (Nat.le_of_ble_eq_true rfl) (Nat.le_of_ble_eq_true rfl) (c_free hM hw hk2.2.2.2.2.2.2.1 (by omega) (by omega)) (fun x s1 hq => ?_)
          obtain ⟨rfl, rfl⟩ := hq
          refine a_st dX12_findTime_134 rfl (by omega) (by decide) (fun s2 hs2 hf2 => ?_)
          refine s_vret dX12_findTime_135 rfl ?_
          refine ⟨rfl, ?_, ?_, s_fr_tr (s_fr_w hf1 (by decide) (by decide)) (s_fr_w hf2 (by decide) (by decide))⟩
          · rw [hf2 218 (by decide), hs1, htt]
          · rw [hs2, hf1 219 (by decide)]
            congr 2
            unfold x_sv
            rw [← htt]
            rw [if_pos rfl]
      · have e2 : ¬ nI k = nI h := fun q => e ((nI_eq (by omega) (by omega)).mp q).symm
        refine r_aload_n dX12_findTime_78 rfl rfl ?_
        refine s_getR dX12_findTime_79 fX12_26 lysX12 rfl ?_
        refine r_iload_n dX12_findTime_82 rfl rfl ?_
        refine r_iload_n dX12_findTime_83 rfl rfl ?_
        refine a_st dX12_findTime_84 rfl (by omega) (by decide) (fun s1 hs1 hf1 => ?_)
        have hM := m_R_fr hM hf1 (by decide)
        have hH := m_H_fr hH hf1 (by decide)
        refine r_iload_n dX12_findTime_85 rfl rfl ?_
        refine r_aload_n dX12_findTime_86 rfl rfl ?_
        refine s_getI dX12_findTime_87 fX12_36 lysX12 rfl hH.1 ?_
        refine r_icmp_ne (tgt := 104) dX12_findTime_90 (by decide) (fun c90 => ?_) (fun c90 => ?_)
        · refine r_iload_n dX12_findTime_104 rfl rfl ?_
          refine r_istore_n dX12_findTime_105 rfl (by decide) rfl ?_
          refine r_aload_n dX12_findTime_106 rfl rfl ?_
          refine s_getR dX12_findTime_107 fX12_29 lysX12 rfl ?_
          refine r_iload_n dX12_findTime_110 rfl rfl ?_
          refine r_aload_n dX12_findTime_111 rfl rfl ?_
          refine r_aload_n dX12_findTime_112 rfl rfl ?_
          refine s_getR dX12_findTime_113 fX12_9 lysX12 rfl ?_
          refine n_bip 62 dX12_findTime_116 (by decide) ?_
          refine r_iload_n dX12_findTime_118 rfl rfl ?_
          refine n_add dX12_findTime_119 ?_
          refine m_ld dX12_findTime_120 hM (by omega) ?_
          refine r_iload_n dX12_findTime_121 rfl rfl ?_
          refine r_aload_n dX12_findTime_122 rfl rfl ?_
          refine s_getR dX12_findTime_123 fX12_9 lysX12 rfl ?_
          refine n_bip 82 dX12_findTime_126 (by decide) ?_
          refine r_iload_n dX12_findTime_128 rfl rfl ?_
          refine n_add dX12_findTime_129 ?_
          refine m_ld dX12_findTime_130 hM (by omega) ?_
          refine s_V3I mX12_free dX12_findTime_131 okX12_free lX12_178 npX12_free lysX12 rfl (by decide) (by decide) (by decide) (Nat.le_of_ble_eq_true rfl) (Nat.le_of_ble_eq_true rfl) (c_free hM hw hk2.2.2.2.2.2.2.1 (by omega) (by omega)) (fun x s1 hq => ?_)
          obtain ⟨rfl, rfl⟩ := hq
          refine a_st dX12_findTime_134 rfl (by omega) (by decide) (fun s2 hs2 hf2 => ?_)
          refine s_vret dX12_findTime_135 rfl ?_
          refine ⟨rfl, ?_, ?_, s_fr_tr (s_fr_w hf1 (by decide) (by decide)) (s_fr_w hf2 (by decide) (by decide))⟩
          · rw [hf2 218 (by decide), hs1, htt]
          · rw [hs2, hf1 219 (by decide)]
            congr 2
            unfold x_sv
            rw [← htt]
            rw [if_neg (fun q => e (Option.some.inj q))]
        · exact absurd c90 e2
  have B : ∀ (t1 : Nat) (L3 : Option Value), t1 ≤ 200000 → t1 = max (X (2 + X (42 + k))) (match x_jp X k with | none => 0 | some q => t q + X (82 + q)) → s_W G mX12_findTime 4 0 0 (c_V (fun s1 => s1 218 = upd (s 218) k (nI (x_rd X op (fun q => t q + X (82 + q)) k)) ∧ s1 219 = upd (s 219) k (nI (x_sv X hk hu (x_rd X op (fun q => t q + X (82 + q)) k) k)) ∧ s_fr 218 220 s s1)) 49 [some (.ref 212), some (.int (nI k)), some (.int (nI t1)), L3, some (.int (oI (x_mp X op k)))] [] s := by
    intro t1 L3 ht1 e1
    cases hmp : x_mp X op k with
    | none =>
      refine r_iload dX12_findTime_49 rfl ?_
      refine r_iconst (v := -1) dX12_findTime_51 (by decide) ?_
      refine r_icmp_ne (tgt := 59) dX12_findTime_52 (by decide) (fun c52 => ?_) (fun c52 => ?_)
      · exact absurd rfl c52
      · refine r_iload_n dX12_findTime_55 rfl rfl ?_
        refine r_goto (tgt := 77) dX12_findTime_56 (by decide) ?_
        refine r_istore_n dX12_findTime_77 rfl (by decide) rfl ?_
        refine A _ _ _ (by omega) ?_
        unfold x_rd
        rw [hmp]
        cases hj9 : x_jp X k <;> rw [hj9] at e1 <;> dsimp only at e1 ⊢ <;> omega
    | some q =>
      have hq1 := x_mp_lt hw hk1 hmp
      have hq2 := x_op hw hq1.1
      have hq3 := (hT q hq1.1).1 (hm q hmp)
      have hq4 := hb q hq1.1 (hm q hmp)
      have hs4 := x_su hw (f := X (102 + q)) (g := X (102 + k)) (by omega) (by omega)
      rw [oI_s]
      refine r_iload dX12_findTime_49 rfl ?_
      refine r_iconst (v := -1) dX12_findTime_51 (by decide) ?_
      refine r_icmp_ne (tgt := 59) dX12_findTime_52 (by decide) (fun c52 => ?_) (fun c52 => ?_)
      · refine r_iload_n dX12_findTime_59 rfl rfl ?_
        refine r_aload_n dX12_findTime_60 rfl rfl ?_
        refine r_iload dX12_findTime_61 rfl ?_
        refine s_V1I mX12_endOf dX12_findTime_63 okX12_endOf lX12_164 npX12_endOf lysX12 rfl (by decide) (by decide) (by decide) (Nat.le_of_ble_eq_true rfl) (Nat.le_of_ble_eq_true rfl) (c_endOf hM (by omega) hq3.1) (fun x s1 hq => ?_)
        obtain ⟨rfl, rfl⟩ := hq
        refine r_aload_n dX12_findTime_66 rfl rfl ?_
        refine r_iload dX12_findTime_67 rfl ?_
        refine r_iload_n dX12_findTime_69 rfl rfl ?_
        refine s_V2I mX12_setup dX12_findTime_70 okX12_setup lX12_172 npX12_setup lysX12 rfl (by decide) (by decide) (by decide) (Nat.le_of_ble_eq_true rfl) (Nat.le_of_ble_eq_true rfl) (c_setup hM (by omega) (by omega) (by omega) (by omega)) (fun x s1 hq => ?_)
        obtain ⟨rfl, rfl⟩ := hq
        refine n_add dX12_findTime_73 ?_
        refine r_mmax dX12_findTime_74 kwM_X12_max kwM_static_max kwM_ini kwM_code_max (by decide) (Nat.le_of_ble_eq_true rfl) ?_
        rw [nI_max (by omega) (by omega)]
        refine r_istore_n dX12_findTime_77 rfl (by decide) rfl ?_
        refine A _ _ _ (by omega) ?_
        unfold x_rd
        rw [hmp]
        cases hj9 : x_jp X k <;> rw [hj9] at e1 <;> dsimp only at e1 ⊢ <;> omega
      · exact absurd c52 (nI_m1 (by omega))
  refine r_aload_n dX12_findTime_0 rfl rfl ?_
  refine s_getR dX12_findTime_1 fX12_9 lysX12 rfl ?_
  refine n_const 2 dX12_findTime_4 (by decide) ?_
  refine r_aload_n dX12_findTime_5 rfl rfl ?_
  refine s_getR dX12_findTime_6 fX12_9 lysX12 rfl ?_
  refine n_bip 42 dX12_findTime_9 (by decide) ?_
  refine r_iload_n dX12_findTime_11 rfl rfl ?_
  refine n_add dX12_findTime_12 ?_
  refine m_ld dX12_findTime_13 hM (by omega) ?_
  refine n_add dX12_findTime_14 ?_
  refine m_ld dX12_findTime_15 hM (by omega) ?_
  refine r_istore_n dX12_findTime_16 rfl (by decide) rfl ?_
  refine r_aload_n dX12_findTime_17 rfl rfl ?_
  refine r_iload_n dX12_findTime_18 rfl rfl ?_
  refine s_V1I mX12_before dX12_findTime_19 okX12_before lX12_151 npX12_before lysX12 rfl (by decide) (by decide) (by decide) (Nat.le_of_ble_eq_true rfl) (Nat.le_of_ble_eq_true rfl) (c_before hM hw hk1) (fun x s1 hq => ?_)
  obtain ⟨rfl, e9⟩ := hq
  have e9 : x = oI (x_jp X k) := e9
  subst e9
  refine r_istore_n dX12_findTime_22 rfl (by decide) rfl ?_
  refine r_aload_n dX12_findTime_23 rfl rfl ?_
  refine r_iload_n dX12_findTime_24 rfl rfl ?_
  refine s_V1I mX12_ahead dX12_findTime_25 okX12_ahead lX12_157 npX12_ahead lysX12 rfl (by decide) (by decide) (by decide) (Nat.le_of_ble_eq_true rfl) (Nat.le_of_ble_eq_true rfl) (c_ahead hM hop hw hk1 (x_po_ok hw hk1).1 (x_po_ok hw hk1).2) (fun x s1 hq => ?_)
  obtain ⟨rfl, e9⟩ := hq
  have e9 : x = oI (x_mp X op k) := e9
  subst e9
  refine r_istore dX12_findTime_28 (by decide) rfl ?_
  cases hjp : x_jp X k with
  | none =>
    refine r_iload_n dX12_findTime_30 rfl rfl ?_
    refine r_iconst (v := -1) dX12_findTime_31 (by decide) ?_
    refine r_icmp_ne (tgt := 39) dX12_findTime_32 (by decide) (fun c32 => ?_) (fun c32 => ?_)
    · exact absurd rfl c32
    · refine r_iload_n dX12_findTime_35 rfl rfl ?_
      refine r_goto (tgt := 48) dX12_findTime_36 (by decide) ?_
      refine r_istore_n dX12_findTime_48 rfl (by decide) rfl ?_
      refine B _ _ (by omega) ?_
      rw [hjp]
      dsimp only
      omega
  | some q =>
    have hq1 := x_jp_lt hw hk1 hjp
    have hq2 := x_op hw hq1.1
    have hq3 := (hT q hq1.1).1 (hj q hjp)
    have hq4 := hb q hq1.1 (hj q hjp)
    rw [oI_s]
    refine r_iload_n dX12_findTime_30 rfl rfl ?_
    refine r_iconst (v := -1) dX12_findTime_31 (by decide) ?_
    refine r_icmp_ne (tgt := 39) dX12_findTime_32 (by decide) (fun c32 => ?_) (fun c32 => ?_)
    · refine r_iload_n dX12_findTime_39 rfl rfl ?_
      refine r_aload_n dX12_findTime_40 rfl rfl ?_
      refine r_iload_n dX12_findTime_41 rfl rfl ?_
      refine s_V1I mX12_endOf dX12_findTime_42 okX12_endOf lX12_164 npX12_endOf lysX12 rfl (by decide) (by decide) (by decide) (Nat.le_of_ble_eq_true rfl) (Nat.le_of_ble_eq_true rfl) (c_endOf hM (by omega) hq3.1) (fun x s1 hq => ?_)
      obtain ⟨rfl, rfl⟩ := hq
      refine r_mmax dX12_findTime_45 kwM_X12_max kwM_static_max kwM_ini kwM_code_max (by decide) (Nat.le_of_ble_eq_true rfl) ?_
      rw [nI_max (by omega) (by omega)]
      refine r_istore_n dX12_findTime_48 rfl (by decide) rfl ?_
      refine B _ _ (by omega) ?_
      rw [hjp]
    · exact absurd c32 (nI_m1 (by omega))
