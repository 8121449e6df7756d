/-! ===== the reference's findTimes ===== -/
def x_kn (K : Nat → Bool) (b : Option Nat) : Bool := match b with
  | none => true
  | some q => K q
theorem x_TT_add {X : x_T} {op : Nat → Bool} {hk : Option Nat} {hu : Nat} {K : Nat → Bool} {r t rk : Nat → Nat} {i c : Nat} (T : x_TT X op hk hu K r t rk) (hc : ∀ k, k < X 1 → K k = true → rk k < c) (hw : x_wf X) (hi : i < X 1) (hK : K i = false) (hj : ∀ q, x_jp X i = some q → K q = true) (hm : ∀ q, x_mp X op i = some q → K q = true) :
    x_TT X op hk hu (va_up K i true) (va_up r i (x_rd X op (fun q => t q + X (82 + q)) i)) (va_up t i (x_sv X hk hu (x_rd X op (fun q => t q + X (82 + q)) i) i)) (va_up rk i c) := by
  have hne : ∀ q, K q = true → q ≠ i := fun q h e => by rw [e, hK] at h; cases h
  have hu : ∀ {α : Type} (f : Nat → α) (v : α) q, K q = true → va_up f i v q = f q := fun f v q h => va_up_n (hne q h)
  intro o ho hKo
  by_cases e : o = i
  · subst e
    rw [va_up_s, va_up_s, va_up_s]
    refine ⟨fun q hq => ?_, fun q hq => ?_, ?_, rfl⟩
    · rw [hu K true q (hj q hq), hu rk c q (hj q hq)]; exact ⟨hj q hq, hc q (x_jp_lt hw ho hq).1 (hj q hq)⟩
    · rw [hu K true q (hm q hq), hu rk c q (hm q hq)]; exact ⟨hm q hq, hc q (x_mp_lt hw ho hq).1 (hm q hq)⟩
    · exact x_rd_congr (fun q hq => by show t q + _ = va_up t o _ q + _; rw [hu t _ q (hj q hq)]) (fun q hq => by show t q + _ = va_up t o _ q + _; rw [hu t _ q (hm q hq)])
  · rw [va_up_n e] at hKo
    obtain ⟨a1, a2, a3, a4⟩ := T o ho hKo
    rw [va_up_n e, va_up_n e, va_up_n e]
    refine ⟨fun q hq => ?_, fun q hq => ?_, ?_, a4⟩
    · rw [hu K true q (a1 q hq).1, hu rk c q (a1 q hq).1]; exact a1 q hq
    · rw [hu K true q (a2 q hq).1, hu rk c q (a2 q hq).1]; exact a2 q hq
    · rw [a3]; exact x_rd_congr (fun q hq => by show t q + _ = va_up t i _ q + _; rw [hu t _ q (a1 q hq).1]) (fun q hq => by show t q + _ = va_up t i _ q + _; rw [hu t _ q (a2 q hq).1])
theorem m_T_add {X : x_T} {K : Nat → Bool} {r t : Nat → Nat} {s s1 : s_T} {i R T : Nat} (h : m_T X K r t s) (h1 : s1 218 = upd (s 218) i (nI R)) (h2 : s1 219 = upd (s 219) i (nI T)) : m_T X (va_up K i true) (va_up r i R) (va_up t i T) s1 := by
  intro k hk
  rw [h1, h2]
  by_cases e : k = i
  · subst e
    rw [va_up_s, va_up_s, va_up_s, pk_us, pk_us]
    exact ⟨fun _ => ⟨rfl, rfl⟩, fun q => by cases q⟩
  · rw [va_up_n e, va_up_n e, va_up_n e, pk_un e, pk_un e]
    exact h k hk
theorem n_dec {n : Nat} (h : 0 < n) : nI n + Int32.ofInt (-1) = nI (n - 1) := by
  obtain ⟨k, rfl⟩ : ∃ k, n = k + 1 := ⟨n - 1, by omega⟩
  exact pk_m1 k
theorem c_isKnown {G : q_G} {s : s_T} {X : x_T} {K : Nat → Bool} {r t : Nat → Nat} {b : Option Nat} (hw : x_wf X) (hT : m_T X K r t s) (hb : ∀ q, b = some q → q < X 1) (ht : ∀ q, q < X 1 → K q = true → t q ≤ 100000) : s_W G mX12_isKnown 1 0 0 (c_I (fun y9 s1 => s1 = s ∧ y9 = bI (x_kn K b))) 0 (q_ent mX12_isKnown [.ref 212, .int (oI b)]) [] s := by
  cases b with
  | none => exact c_isKnown0
  | some q =>
    have hq := hb q rfl
    have hz := x_sz hw
    cases hK : K q with
    | true =>
      have h := c_isKnown1 (G := G) (s := s) (q := q) (v := t q) (b := true) (by omega) (fun _ => ((hT q hq).1 hK).1) (by have := ht q hq hK; omega) (fun e => by cases e)
      show s_W G mX12_isKnown 1 0 0 (c_I (fun y9 s1 => s1 = s ∧ y9 = bI (K q))) 0 _ [] s
      rw [hK]
      exact h
    | false =>
      have h := c_isKnown1 (G := G) (s := s) (q := q) (v := 0) (b := false) (by omega) (fun e => by cases e) (by decide) (fun _ => (hT q hq).2 hK)
      show s_W G mX12_isKnown 1 0 0 (c_I (fun y9 s1 => s1 = s ∧ y9 = bI (K q))) 0 _ [] s
      rw [hK]
      exact h
set_option maxRecDepth 20000 in
set_option maxHeartbeats 1000000 in
theorem c_findTimes {G : q_G} {s : s_T} {X : x_T} {op : Nat → Bool} {hk : Option Nat} {hu : Nat} (hM : m_R X s) (hop : m_op op s) (hH : m_H hk hu s) (hw : x_wf X) (hu2 : hu ≤ 50000) (hh2 : ∀ q, hk = some q → q < 20) : s_W G mX12_findTimes 5 0 0 (c_I (fun y9 s1 => ∃ (K : Nat → Bool) (r t rk : Nat → Nat), y9 = nI (X 1 - x_ct K (X 1)) ∧ x_mx X op K ∧ m_T X K r t s1 ∧ x_TT X op hk hu K r t rk ∧ (∀ k, k < X 1 → K k = true → rk k < x_ct K (X 1)) ∧ s_fr 218 220 s s1)) 0 (q_ent mX12_findTimes [.ref 212]) [] s := by
  show s_W G mX12_findTimes 5 0 0 _ 0 [some (.ref 212), none, none, none, none] [] s
  have hz := x_sz hw
  have outer : ∀ f s1 K r t rk e (L4 : Option Value), (m_T X K r t s1 ∧ x_TT X op hk hu K r t rk ∧ (∀ k, k < X 1 → K k = true → rk k < x_ct K (X 1)) ∧ s_fr 218 220 s s1) → e ≤ 1 → (e = 0 → x_mx X op K) → (e = 1 → X 1 < x_ct K (X 1) + f) → s_W G mX12_findTimes 5 0 0 (c_I (fun y9 s1 => ∃ (K : Nat → Bool) (r t rk : Nat → Nat), y9 = nI (X 1 - x_ct K (X 1)) ∧ x_mx X op K ∧ m_T X K r t s1 ∧ x_TT X op hk hu K r t rk ∧ (∀ k, k < X 1 → K k = true → rk k < x_ct K (X 1)) ∧ s_fr 218 220 s s1)) 31 [some (.ref 212), some (.int (nI (X 1))), some (.int (nI (X 1 - x_ct K (X 1)))), some (.int (nI e)), L4] [] s1 := by
    intro f
    induction f with
    | zero =>
      intro s1 K r t rk e L4 hI he h0 h1
      have hcl := x_ct_le (K := K) (X 1)
      refine r_iload_n dX12_findTimes_31 rfl rfl ?_
      refine n_ifeq (tgt := 102) dX12_findTimes_32 (by decide) (by omega) (fun c32 => ?_) (fun c32 => ?_)
      · refine r_iload_n dX12_findTimes_102 rfl rfl ?_
        refine s_iret dX12_findTimes_103 rfl rfl ?_
        exact ⟨_, rfl, K, r, t, rk, rfl, h0 c32, hI⟩
      · exact absurd (h1 (by omega)) (by omega)
    | succ f ih =>
      intro s1 K r t rk e L4 hI he h0 h1
      have hcl := x_ct_le (K := K) (X 1)
      refine r_iload_n dX12_findTimes_31 rfl rfl ?_
      refine n_ifeq (tgt := 102) dX12_findTimes_32 (by decide) (by omega) (fun c32 => ?_) (fun c32 => ?_)
      · refine r_iload_n dX12_findTimes_102 rfl rfl ?_
        refine s_iret dX12_findTimes_103 rfl rfl ?_
        exact ⟨_, rfl, K, r, t, rk, rfl, h0 c32, hI⟩
      · refine n_const 0 dX12_findTimes_35 (by decide) ?_
        refine r_istore_n dX12_findTimes_36 rfl (by decide) rfl ?_
        refine n_const 0 dX12_findTimes_37 (by decide) ?_
        refine r_istore dX12_findTimes_38 (by decide) rfl ?_
        have hct0 : True := trivial
        have inner : ∀ f2 i s1 K2 r t rk e, (m_T X K2 r t s1 ∧ x_TT X op hk hu K2 r t rk ∧ (∀ k, k < X 1 → K2 k = true → rk k < x_ct K2 (X 1)) ∧ s_fr 218 220 s s1) → i ≤ X 1 → X 1 < i + f2 → e ≤ 1 → (e = 0 → ∀ j, j < i → (∀ q, x_jp X j = some q → K2 q = true) → (∀ q, x_mp X op j = some q → K2 q = true) → K2 j = true) → (e = 0 → x_ct K (X 1) ≤ x_ct K2 (X 1)) ∧ (e = 1 → x_ct K (X 1) < x_ct K2 (X 1)) → s_W G mX12_findTimes 5 0 0 (c_I (fun y9 s1 => ∃ (K : Nat → Bool) (r t rk : Nat → Nat), y9 = nI (X 1 - x_ct K (X 1)) ∧ x_mx X op K ∧ m_T X K r t s1 ∧ x_TT X op hk hu K r t rk ∧ (∀ k, k < X 1 → K k = true → rk k < x_ct K (X 1)) ∧ s_fr 218 220 s s1)) 40 [some (.ref 212), some (.int (nI (X 1))), some (.int (nI (X 1 - x_ct K2 (X 1)))), some (.int (nI e)), some (.int (nI i))] [] s1 := by
          have h1 := h1 (by omega)
          generalize x_ct K (X 1) = c0 at h1 ⊢
          intro f2
          induction f2 with
          | zero => intro i s1 K r t rk e hI h3 h4; exact absurd h4 (by omega)
          | succ f2 ih2 =>
            intro i s1 K r t rk e hI h3 h4 he he0 he1
            obtain ⟨i1, i2, i3, i4⟩ := hI
            have hcl := x_ct_le (K := K) (X 1)
            have hb : ∀ q, q < X 1 → K q = true → t q ≤ 100000 := fun q hq hKq => by
              have q1 := x_TT_bd hw i2 (rk q + 1) q hq (by omega) hKq
              have q2 := i3 q hq hKq
              omega
            refine r_iload dX12_findTimes_40 rfl ?_
            refine r_iload_n dX12_findTimes_42 rfl rfl ?_
            refine n_cge (tgt := 99) dX12_findTimes_43 (by decide) (by omega) (by omega) (fun c43 => ?_) (fun c43 => ?_)
            · have e9 : i = X 1 := by omega
              subst e9
              refine r_goto (tgt := 31) dX12_findTimes_99 (by decide) ?_
              refine ih s1 K r t rk e _ ⟨i1, i2, i3, i4⟩ he (fun e0 o ho p1 p2 => he0 e0 o ho p1 p2) (fun e1 => by have := he1.2 e1; omega)
            · cases hKi : K i with
              | true =>
                refine r_aload_n dX12_findTimes_46 rfl rfl ?_
                refine s_getR dX12_findTimes_47 fX12_29 lysX12 rfl ?_
                refine r_iload dX12_findTimes_50 rfl ?_
                refine a_ld dX12_findTimes_52 rfl (by omega) (by decide) ((i1 i c43).1 hKi).1 ?_
                refine r_if_ge (tgt := 93) dX12_findTimes_53 (by decide) (fun c53 => ?_) (fun c53 => ?_)
                · refine n_inc dX12_findTimes_93 rfl (n_i1 _) (by decide) rfl ?_
                  refine r_goto (tgt := 40) dX12_findTimes_96 (by decide) ?_
                  refine ih2 (i + 1) s1 K r t rk e ⟨i1, i2, i3, i4⟩ (by omega) (by omega) he ?_ he1
                  intro e0 j hj p1 p2
                  by_cases ej : j = i
                  · rw [ej] at p1 p2 ⊢
                    exact hKi
                  · exact he0 e0 j (by omega) p1 p2
                · exact absurd (nI_pos' (by have := hb i c43 hKi; omega)) c53
              | false =>
                refine r_aload_n dX12_findTimes_46 rfl rfl ?_
                refine s_getR dX12_findTimes_47 fX12_29 lysX12 rfl ?_
                refine r_iload dX12_findTimes_50 rfl ?_
                refine a_ld dX12_findTimes_52 rfl (by omega) (by decide) ((i1 i c43).2 hKi) ?_
                refine r_if_ge (tgt := 93) dX12_findTimes_53 (by decide) (fun c53 => ?_) (fun c53 => ?_)
                · exact absurd c53 (by decide)
                · refine r_aload_n dX12_findTimes_56 rfl rfl ?_
                  refine r_aload_n dX12_findTimes_57 rfl rfl ?_
                  refine r_iload dX12_findTimes_58 rfl ?_
                  refine s_V1I mX12_before dX12_findTimes_60 okX12_before lX12_151 npX12_before lysX12 rfl (by decide) (by decide) (by decide) (Nat.le_of_ble_eq_true rfl) (Nat.le_of_ble_eq_true rfl) (c_before (m_R_fr hM i4 (by decide)) hw c43) (fun x s1 hq => ?_)
                  obtain ⟨rfl, e9⟩ := hq
                  have e9 : x = oI (x_jp X i) := e9
                  subst e9
                  refine s_V1I mX12_isKnown dX12_findTimes_63 okX12_isKnown lX12_154 npX12_isKnown lysX12 rfl (by decide) (by decide) (by decide) (Nat.le_of_ble_eq_true rfl) (Nat.le_of_ble_eq_true rfl) (c_isKnown hw i1 (fun q hq => (x_jp_lt hw c43 hq).1) hb) (fun x s1 hq => ?_)
                  obtain ⟨rfl, rfl⟩ := hq
                  refine b_ifeq (tgt := 93) dX12_findTimes_66 (by decide) (fun c66 => ?_) (fun c66 => ?_)
                  · refine n_inc dX12_findTimes_93 rfl (n_i1 _) (by decide) rfl ?_
                    refine r_goto (tgt := 40) dX12_findTimes_96 (by decide) ?_
                    refine ih2 (i + 1) s1 K r t rk e ⟨i1, i2, i3, i4⟩ (by omega) (by omega) he ?_ he1
                    intro e0 j hj p1 p2
                    by_cases ej : j = i
                    · rw [ej] at p1 p2 ⊢
                      exfalso
                      cases hb9 : x_jp X i with
                      | none => rw [hb9] at c66; cases c66
                      | some q => rw [hb9] at c66; have c66 : K q = false := c66; rw [p1 q hb9] at c66; cases c66
                    · exact he0 e0 j (by omega) p1 p2
                  · have hjk : ∀ q, x_jp X i = some q → K q = true := fun q hq => by rw [hq] at c66; exact c66
                    refine r_aload_n dX12_findTimes_69 rfl rfl ?_
                    refine r_aload_n dX12_findTimes_70 rfl rfl ?_
                    refine r_iload dX12_findTimes_71 rfl ?_
                    refine s_V1I mX12_ahead dX12_findTimes_73 okX12_ahead lX12_157 npX12_ahead lysX12 rfl (by decide) (by decide) (by decide) (Nat.le_of_ble_eq_true rfl) (Nat.le_of_ble_eq_true rfl) (c_ahead (m_R_fr hM i4 (by decide)) (m_op_fr hop i4 (by decide)) hw c43 (x_po_ok hw c43).1 (x_po_ok hw c43).2) (fun x s1 hq => ?_)
                    obtain ⟨rfl, e9⟩ := hq
                    have e9 : x = oI (x_mp X op i) := e9
                    subst e9
                    refine s_V1I mX12_isKnown dX12_findTimes_76 okX12_isKnown lX12_154 npX12_isKnown lysX12 rfl (by decide) (by decide) (by decide) (Nat.le_of_ble_eq_true rfl) (Nat.le_of_ble_eq_true rfl) (c_isKnown hw i1 (fun q hq => (x_mp_lt hw c43 hq).1) hb) (fun x s1 hq => ?_)
                    obtain ⟨rfl, rfl⟩ := hq
                    refine b_ifeq (tgt := 93) dX12_findTimes_79 (by decide) (fun c79 => ?_) (fun c79 => ?_)
                    · refine n_inc dX12_findTimes_93 rfl (n_i1 _) (by decide) rfl ?_
                      refine r_goto (tgt := 40) dX12_findTimes_96 (by decide) ?_
                      refine ih2 (i + 1) s1 K r t rk e ⟨i1, i2, i3, i4⟩ (by omega) (by omega) he ?_ he1
                      intro e0 j hj p1 p2
                      by_cases ej : j = i
                      · rw [ej] at p1 p2 ⊢
                        exfalso
                        cases hb9 : x_mp X op i with
                        | none => rw [hb9] at c79; cases c79
                        | some q => rw [hb9] at c79; have c79 : K q = false := c79; rw [p2 q hb9] at c79; cases c79
                      · exact he0 e0 j (by omega) p1 p2
                    · have hmk : ∀ q, x_mp X op i = some q → K q = true := fun q hq => by rw [hq] at c79; exact c79
                      have hct := x_ct_up (K := K) (k := i) hKi (X 1)
                      rw [if_pos c43] at hct
                      have hct2 := x_ct_le (K := va_up K i true) (X 1)
                      refine r_aload_n dX12_findTimes_82 rfl rfl ?_
                      refine r_iload dX12_findTimes_83 rfl ?_
                      refine s_V1V mX12_findTime dX12_findTimes_85 okX12_findTime lX12_160 npX12_findTime lysX12 rfl (by decide) (by decide) (by decide) (Nat.le_of_ble_eq_true rfl) (Nat.le_of_ble_eq_true rfl) (c_findTime (m_R_fr hM i4 (by decide)) (m_op_fr hop i4 (by decide)) (m_H_fr hH i4 (by decide)) hw c43 i1 hjk hmk hb (by omega) hh2) (fun s3 hq => ?_)
                      obtain ⟨hs1, hs2, hs3⟩ := hq
                      refine n_inc dX12_findTimes_88 rfl (n_dec (by omega)) (by decide) rfl ?_
                      refine n_const 1 dX12_findTimes_91 (by decide) ?_
                      refine r_istore_n dX12_findTimes_92 rfl (by decide) rfl ?_
                      refine n_inc dX12_findTimes_93 rfl (n_i1 _) (by decide) rfl ?_
                      refine r_goto (tgt := 40) dX12_findTimes_96 (by decide) ?_
                      have e8 : X 1 - x_ct K (X 1) - 1 = X 1 - x_ct (va_up K i true) (X 1) := by omega
                      rw [e8]
                      refine ih2 (i + 1) s3 (va_up K i true) _ _ (va_up rk i (x_ct K (X 1))) 1 ⟨m_T_add i1 hs1 hs2, x_TT_add i2 i3 hw c43 hKi hjk hmk, fun k hk hKk => ?_, s_fr_tr i4 hs3⟩ (by omega) (by omega) (by omega) (fun q => absurd q (by decide)) ⟨fun q => absurd q (by decide), fun _ => by by_cases q : e = 1; (have := he1.2 q; omega); (have := he1.1 (by omega); omega)⟩
                      by_cases ek : k = i
                      · subst ek; rw [va_up_s]; omega
                      · rw [va_up_n ek] at hKk ⊢; have := i3 k hk hKk; omega
        exact inner (X 1 + 1) 0 s1 K r t rk 0 hI (by omega) (by omega) (by omega) (fun _ j hj => absurd hj (by omega)) ⟨fun _ => Nat.le_refl _, fun q => absurd q (by decide)⟩
  have init : ∀ f i s1 (L3 L4 : Option Value), i ≤ X 1 → X 1 < i + f → (∀ j, j < i → s1 219 j = -1) → s_fr 218 220 s s1 → s_W G mX12_findTimes 5 0 0 (c_I (fun y9 s1 => ∃ (K : Nat → Bool) (r t rk : Nat → Nat), y9 = nI (X 1 - x_ct K (X 1)) ∧ x_mx X op K ∧ m_T X K r t s1 ∧ x_TT X op hk hu K r t rk ∧ (∀ k, k < X 1 → K k = true → rk k < x_ct K (X 1)) ∧ s_fr 218 220 s s1)) 9 [some (.ref 212), some (.int (nI (X 1))), some (.int (nI i)), L3, L4] [] s1 := by
    intro f
    induction f with
    | zero => intro i s1 L3 L4 h1 h2; exact absurd h2 (by omega)
    | succ f ih =>
      intro i s1 L3 L4 h1 h2 h3 h4
      refine r_iload_n dX12_findTimes_9 rfl rfl ?_
      refine r_iload_n dX12_findTimes_10 rfl rfl ?_
      refine n_cge (tgt := 27) dX12_findTimes_11 (by decide) (by omega) (by omega) (fun c11 => ?_) (fun c11 => ?_)
      · refine r_iload_n dX12_findTimes_27 rfl rfl ?_
        refine r_istore_n dX12_findTimes_28 rfl (by decide) rfl ?_
        refine n_const 1 dX12_findTimes_29 (by decide) ?_
        refine r_istore_n dX12_findTimes_30 rfl (by decide) rfl ?_
        have e0 : x_ct (fun _ => false) (X 1) = 0 := by
          have : ∀ n, x_ct (fun _ => false) n = 0 := fun n => by
            induction n with
            | zero => rfl
            | succ n ih => unfold x_ct; rw [ih]; rfl
          exact this _
        have e1 : nI (X 1) = nI (X 1 - x_ct (fun _ => false) (X 1)) := by rw [e0]; rfl
        have hW := outer (X 1 + 1) s1 (fun _ => false) (fun _ => 0) (fun _ => 0) (fun _ => 0) 1 L4 ⟨fun k hk => ⟨fun q => (by cases q), fun _ => h3 k (by omega)⟩, fun o _ q => (by cases q), fun k _ q => (by cases q), h4⟩ (by omega) (fun q => absurd q (by decide)) (fun _ => by omega)
        rw [← e1] at hW
        exact hW
      · refine r_aload_n dX12_findTimes_14 rfl rfl ?_
        refine s_getR dX12_findTimes_15 fX12_29 lysX12 rfl ?_
        refine r_iload_n dX12_findTimes_18 rfl rfl ?_
        refine r_iconst (v := -1) dX12_findTimes_19 (by decide) ?_
        refine a_st dX12_findTimes_20 rfl (by omega) (by decide) (fun s2 hs2 hf2 => ?_)
        refine n_inc dX12_findTimes_21 rfl (n_i1 _) (by decide) rfl ?_
        refine r_goto (tgt := 9) dX12_findTimes_24 (by decide) ?_
        refine ih (i + 1) s2 _ _ (by omega) (by omega) (fun j hj => ?_) (s_fr_tr h4 (s_fr_w hf2 (by decide) (by decide)))
        rw [hs2]
        by_cases ej : j = i
        · subst ej; rw [pk_us]
        · rw [pk_un ej]; exact h3 j (by omega)
  refine r_aload_n dX12_findTimes_0 rfl rfl ?_
  refine s_getR dX12_findTimes_1 fX12_9 lysX12 rfl ?_
  refine n_const 1 dX12_findTimes_4 (by decide) ?_
  refine m_ld dX12_findTimes_5 hM (by omega) ?_
  refine r_istore_n dX12_findTimes_6 rfl (by decide) rfl ?_
  refine n_const 0 dX12_findTimes_7 (by decide) ?_
  refine r_istore_n dX12_findTimes_8 rfl (by decide) rfl ?_
  exact init (X 1 + 1) 0 s none none (by omega) (by omega) (fun j hj => absurd hj (by omega)) s_fr_rf
