/-! ===== the class's Timetable: the invariant of compute ===== -/
theorem x_mxe_up {e : Nat → Nat} {k v : Nat} : ∀ n, k < n → e k ≤ v → x_mxe (va_up e k v) n = max (x_mxe e n) v
  | 0, h, _ => absurd h (by omega)
  | n + 1, h, h2 => by
    unfold x_mxe
    by_cases q : k = n
    · subst q
      rw [va_up_s, x_mxe_congr (e := va_up e k v) (e' := e) k (fun j hj => va_up_n (by omega))]
      omega
    · rw [x_mxe_up n (by omega) h2, va_up_n (fun z => q z.symm)]
      omega
/-- the class's table at h has the times of what is known -/
def c_tm (X : x_T) (op K : Nat → Bool) (r t : Nat → Nat) (s : s_T) (h : Nat) : Prop := ∀ o, o < X 1 → K o = true → s (h + 1) o = nI (r o) ∧ s (h + 2) o = nI (t o) ∧ s (h + 3) o = nI (t o + X (82 + o)) ∧ s (h + 4) o = oI (x_mp X op o)
def x_ke (X : x_T) (K : Nat → Bool) (t : Nat → Nat) : Nat := x_mxe (fun k => if K k = true then t k + X (82 + k) else 0) (X 1)
/-- jobs before j9 .. -/
def c_iv (X : x_T) (op : Nat → Bool) (hk : Option Nat) (hu h : Nat) (s0 s : s_T) (K : Nat → Bool) (r t rk sd rd : Nat → Nat) (j9 : Nat) : Prop :=
  (∀ j, j < 5 → j ≠ j9 → s (h + 6) j = nI (sd j)) ∧ (∀ j, j < X 0 → sd j ≤ X (17 + j)) ∧ (∀ o, o < X 1 → (K o = true ↔ X (122 + o) < sd (X (42 + o)))) ∧
  (∀ m, m < 4 → s (h + 7) m = nI (rd m) ∧ rd m ≤ x_ct K (X 1) ∧ (op m = false → ∀ o, o < X 1 → X (62 + o) = m → (K o = true ↔ x_po X o < rd m))) ∧
  s h 5 = nI (x_ct K (X 1)) ∧ s h 6 = nI (x_ke X K t) ∧ c_tm X op K r t s h ∧ x_TT X op hk hu K r t rk ∧ (∀ k, k < X 1 → K k = true → rk k < x_ct K (X 1)) ∧
  s (h + 5) = s0 (h + 5) ∧ s h 9 = s0 h 9 ∧ s h 10 = s0 h 10 ∧ s_fr h (h + 8) s0 s
/-- job j can't go on -/
def x_sk (X : x_T) (op : Nat → Bool) (sd rd : Nat → Nat) (j : Nat) : Prop := sd j < X (17 + j) → ∀ k, k = X (22 + 4 * j + sd j) → op (X (62 + k)) = false ∧ ¬ (rd (X (62 + k)) < X (179 + X (62 + k)) ∧ X (183 + 5 * X (62 + k) + rd (X (62 + k))) = k)
theorem x_sk_mx {X : x_T} {op K : Nat → Bool} {sd rd : Nat → Nat} (hw : x_wf X) (h2 : ∀ o, o < X 1 → (K o = true ↔ X (122 + o) < sd (X (42 + o)))) (h3 : ∀ m, m < 4 → op m = false → ∀ o, o < X 1 → X (62 + o) = m → (K o = true ↔ x_po X o < rd m)) (h4 : ∀ j, j < X 0 → x_sk X op sd rd j) : x_mx X op K := by
  intro o ho hj hm
  have h5 := x_op hw ho
  have h6 := h2 o ho
  apply Classical.byContradiction
  intro hn
  have h7 : ¬ X (122 + o) < sd (X (42 + o)) := fun q => hn (h6.mpr q)
  by_cases e : X (122 + o) = sd (X (42 + o))
  · obtain ⟨a1, a2⟩ := h4 _ h5.2.2.1 (by omega) o (by rw [← e]; exact h5.2.2.2.2.2.1.symm)
    have a3 := h3 _ h5.2.2.2.2.2.2.1 a1 o ho rfl
    have a4 : ¬ x_po X o < rd (X (62 + o)) := fun q => hn (a3.mpr q)
    have a5 := x_po_ok hw ho
    by_cases e2 : rd (X (62 + o)) = x_po X o
    · exact a2 ⟨by omega, by rw [e2]; exact a5.2⟩
    · have e3 : x_mp X op o = some (X (183 + 5 * X (62 + o) + (x_po X o - 1))) := by
        unfold x_mp
        rw [if_neg (fun q => q.elim (fun q => by rw [a1] at q; cases q) (fun q => by omega))]
      have a6 := x_mp_lt hw ho e3
      have a7 := (h3 _ h5.2.2.2.2.2.2.1 a1 _ a6.1 a6.2.1).mp (hm _ e3)
      omega
  · have e3 : x_jp X o = some (X (22 + 4 * X (42 + o) + (X (122 + o) - 1))) := by unfold x_jp; rw [if_neg (by omega)]
    have a6 := x_jp_lt hw ho e3
    have a7 := (h2 _ a6.1).mp (hj _ e3)
    rw [a6.2.1] at a7
    omega
theorem c_iv_step {X : x_T} {op : Nat → Bool} {hk : Option Nat} {hu : Nat} {K : Nat → Bool} {r t rk sd rd : Nat → Nat} {h j k : Nat} {s0 s s1 : s_T} (hw : x_wf X) (hh : isX10 h) (I : c_iv X op hk hu h s0 s K r t rk sd rd j) (hj : j < X 0) (hst : sd j < X (17 + j)) (hk1 : k = X (22 + 4 * j + sd j)) (hn : op (X (62 + k)) = false → rd (X (62 + k)) = x_po X k) {R T : Nat} (hR : R = x_rd X op (fun q => t q + X (82 + q)) k) (hT : T = x_sv X hk hu R k)
    (P : s1 (h + 1) = upd (s (h + 1)) k (nI R) ∧ s1 (h + 2) = upd (s (h + 2)) k (nI T) ∧ s1 (h + 3) = upd (s (h + 3)) k (nI (T + X (82 + k))) ∧ s1 (h + 4) = upd (s (h + 4)) k (oI (x_mp X op k)) ∧ s1 (h + 7) = upd (s (h + 7)) (X (62 + k)) (nI (rd (X (62 + k)) + 1)) ∧ s1 h = upd (upd (s h) 6 (nI (max (x_ke X K t) (T + X (82 + k))))) 5 (nI (x_ct K (X 1) + 1)) ∧ s1 (h + 5) = s (h + 5) ∧ s1 (h + 6) = s (h + 6) ∧ s_fr h (h + 8) s s1) :
    c_iv X op hk hu h s0 s1 (va_up K k true) (va_up r k R) (va_up t k T) (va_up rk k (x_ct K (X 1))) (va_up sd j (sd j + 1)) (va_up rd (X (62 + k)) (rd (X (62 + k)) + 1)) j ∧ x_ct (va_up K k true) (X 1) = x_ct K (X 1) + 1 := by
  obtain ⟨i1, i2, i3, i4, i5, i6, i7, i8, i9, i10, i11, i12, i13⟩ := I
  obtain ⟨p1, p2, p3, p4, p5, p6, p7, p8, p9⟩ := P
  have hrt := x_rt hw hj hst
  rw [← hk1] at hrt
  have hko := x_op hw hrt.1
  have hKk : K k = false := by
    cases hb : K k with
    | false => rfl
    | true => have := (i3 k hrt.1).mp hb; rw [hrt.2.1] at this; omega
  have hct : x_ct (va_up K k true) (X 1) = x_ct K (X 1) + 1 := by rw [x_ct_up hKk, if_pos hrt.1]
  refine ⟨⟨?_, ?_, ?_, ?_, ?_, ?_, ?_, ?_, ?_, ?_, ?_, ?_, ?_⟩, hct⟩
  · intro q h1 h2
    rw [p8, va_up_n h2]
    exact i1 q h1 h2
  · intro q hq
    by_cases e : q = j
    · subst e; rw [va_up_s]; omega
    · rw [va_up_n e]; exact i2 q hq
  · intro q hq
    by_cases e : q = k
    · subst e
      rw [va_up_s, hrt.2.1, va_up_s, hrt.2.2]
      exact ⟨fun _ => by omega, fun _ => rfl⟩
    · rw [va_up_n e]
      by_cases e2 : X (42 + q) = j
      · rw [e2, va_up_s]
        have h1 := i3 q hq
        rw [e2] at h1
        rw [h1]
        have h2 := x_op hw hq
        have h3 : X (122 + q) ≠ sd j := fun z => e (by rw [hk1, ← z, ← e2]; exact h2.2.2.2.2.2.1.symm)
        omega
      · rw [va_up_n e2]; exact i3 q hq
  · intro m hm
    obtain ⟨a1, a2, a3⟩ := i4 m hm
    rw [hct]
    by_cases e : m = X (62 + k)
    · rw [← e] at p5 hn ⊢
      refine ⟨by rw [p5, pk_us, va_up_s], by rw [va_up_s]; omega, fun hop q hq hqm => ?_⟩
      rw [va_up_s]
      have h1 := hn hop
      by_cases e2 : q = k
      · subst e2
        rw [va_up_s]
        exact ⟨fun _ => by omega, fun _ => rfl⟩
      · rw [va_up_n e2, a3 hop q hq hqm, h1]
        have h3 : x_po X q ≠ x_po X k := fun z => e2 (by rw [← (x_po_ok hw hq).2, ← (x_po_ok hw hrt.1).2, hqm, e, z])
        omega
    · refine ⟨by rw [p5, pk_un e, va_up_n e]; exact a1, by rw [va_up_n e]; omega, fun hop q hq hqm => ?_⟩
      rw [va_up_n e, va_up_n (fun z => e (by rw [← z]; exact hqm.symm))]
      exact a3 hop q hq hqm
  · rw [p6, pk_us, hct]
  · rw [p6, pk_un (by decide), pk_us]
    congr 1
    unfold x_ke
    rw [← x_mxe_up (X 1) hrt.1 (by rw [if_neg (by rw [hKk]; decide)]; exact Nat.zero_le _)]
    refine x_mxe_congr _ (fun q hq => ?_)
    by_cases e : q = k
    · subst e; simp [va_up_s]
    · rw [va_up_n e, va_up_n e]
      simp only [va_up_n e]
  · intro q hq hKq
    by_cases e : q = k
    · subst e
      rw [p1, p2, p3, p4, pk_us, pk_us, pk_us, pk_us, va_up_s, va_up_s]
      exact ⟨rfl, rfl, rfl, rfl⟩
    · rw [va_up_n e] at hKq
      rw [p1, p2, p3, p4, pk_un e, pk_un e, pk_un e, pk_un e, va_up_n e, va_up_n e]
      exact i7 q hq hKq
  · rw [hT, hR]
    refine x_TT_add i8 i9 hw hrt.1 hKk (fun q hq => ?_) (fun q hq => ?_)
    · have h1 := x_jp_lt hw hrt.1 hq
      rw [i3 q h1.1, h1.2.1, hrt.2.1]
      omega
    · have h1 := x_mp_lt hw hrt.1 hq
      have h2 := (i4 _ hko.2.2.2.2.2.2.1).2.2 h1.2.2.2 q h1.1 h1.2.1
      rw [h2]
      have := hn h1.2.2.2
      omega
  · intro q hq hKq
    rw [hct]
    by_cases e : q = k
    · subst e; rw [va_up_s]; omega
    · rw [va_up_n e] at hKq ⊢; have := i9 q hq hKq; omega
  · rw [p7]; exact i10
  · rw [p6, pk_un (by decide), pk_un (by decide)]; exact i11
  · rw [p6, pk_un (by decide), pk_un (by decide)]; exact i12
  · exact s_fr_tr i13 p9
/-- what place needs -/
theorem c_iv_pl {X : x_T} {op : Nat → Bool} {hk : Option Nat} {hu : Nat} {K : Nat → Bool} {r t rk sd rd : Nat → Nat} {h j k : Nat} {s0 s : s_T} (hw : x_wf X) (I : c_iv X op hk hu h s0 s K r t rk sd rd j) (hj : j < X 0) (hst : sd j < X (17 + j)) (hk1 : k = X (22 + 4 * j + sd j)) (hn : op (X (62 + k)) = false → rd (X (62 + k)) = x_po X k) (hu2 : hu ≤ 50000) :
    (∀ k, k < X 1 → K k = true → rk k < 20) ∧ (∀ q, x_jp X k = some q → K q = true) ∧ (∀ q, x_mp X op k = some q → K q = true) ∧ (∀ q, q < X 1 → K q = true → s (h + 3) q = nI (t q + X (82 + q))) ∧ s (h + 7) (X (62 + k)) = nI (rd (X (62 + k))) ∧ rd (X (62 + k)) ≤ 20 ∧ x_ke X K t ≤ 500000 := by
  obtain ⟨i1, i2, i3, i4, i5, i6, i7, i8, i9, i10, i11, i12, i13⟩ := I
  have hrt := x_rt hw hj hst
  rw [← hk1] at hrt
  have hko := x_op hw hrt.1
  have hc := x_ct_le (K := K) (X 1)
  have hz := x_sz hw
  have hm := i4 _ hko.2.2.2.2.2.2.1
  refine ⟨fun q h1 h2 => ?_, fun q hq => ?_, fun q hq => ?_, fun q h1 h2 => (i7 q h1 h2).2.2.1, hm.1, by have := hm.2.1; omega, ?_⟩
  · have := i9 q h1 h2; omega
  · have h1 := x_jp_lt hw hrt.1 hq
    rw [i3 q h1.1, h1.2.1, hrt.2.1]
    omega
  · have h1 := x_mp_lt hw hrt.1 hq
    rw [hm.2.2 h1.2.2.2 q h1.1 h1.2.1]
    have := hn h1.2.2.2
    omega
  · refine x_mxe_le _ (fun q hq => ?_)
    by_cases e : K q = true
    · rw [if_pos e]
      have q1 := x_TT_bd hw i8 (rk q + 1) q hq (by omega) e
      have := i9 q hq e
      omega
    · rw [if_neg e]; omega
set_option maxRecDepth 20000 in
set_option maxHeartbeats 1000000 in
theorem c_compute {G : q_G} {s : s_T} {X : x_T} {op : Nat → Bool} {hk : Option Nat} {hu : Nat} {o h : Nat} (ho : isX7 o) (hh : isX10 h) (hC : c_R X s o) (hw : x_wf X) (hop : ∀ m, m < 4 → s (h + 5) m = bI (op m)) (hH : s h 9 = oI hk ∧ s h 10 = nI hu) (hu2 : hu ≤ 50000) (hh2 : ∀ q, hk = some q → q < 20) : s_W G mX10_compute 3 0 0 (c_I (fun y9 s1 => ∃ (K : Nat → Bool) (r t rk sd : Nat → Nat), y9 = bI (x_sp X op hk hu).isSome ∧ x_mx X op K ∧ c_tm X op K r t s1 h ∧ x_TT X op hk hu K r t rk ∧ (∀ k, k < X 1 → K k = true → rk k < x_ct K (X 1)) ∧ s1 h 5 = nI (x_ct K (X 1)) ∧ s1 h 6 = nI (x_ke X K t) ∧ (∀ j, j < 5 → s1 (h + 6) j = nI (sd j)) ∧ (∀ j, j < X 0 → sd j ≤ X (17 + j)) ∧ (∀ o, o < X 1 → (K o = true ↔ X (122 + o) < sd (X (42 + o)))) ∧ s1 (h + 5) = s (h + 5) ∧ s1 h 9 = s h 9 ∧ s1 h 10 = s h 10 ∧ s_fr h (h + 8) s s1)) 0 (q_ent mX10_compute [.ref h, .ref o]) [] s := by
  show s_W G mX10_compute 3 0 0 _ 0 [some (.ref h), some (.ref o), none, none, none, none] [] s
  have hz := x_sz hw
  have ho2 := o7_le ho
  have hh3 := o10_le hh
  have rl : ∀ f e s1 K r t rk sd rd (L3 : Option Value) (L4 : Option Value) (L5 : Option Value), (c_iv X op hk hu h s s1 K r t rk sd rd 99) → e ≤ x_ct K (X 1) → e ≤ 20 → 20 < e + f → s_W G mX10_compute 3 0 0 (c_I (fun y9 s1 => ∃ (K : Nat → Bool) (r t rk sd : Nat → Nat), y9 = bI (x_sp X op hk hu).isSome ∧ x_mx X op K ∧ c_tm X op K r t s1 h ∧ x_TT X op hk hu K r t rk ∧ (∀ k, k < X 1 → K k = true → rk k < x_ct K (X 1)) ∧ s1 h 5 = nI (x_ct K (X 1)) ∧ s1 h 6 = nI (x_ke X K t) ∧ (∀ j, j < 5 → s1 (h + 6) j = nI (sd j)) ∧ (∀ j, j < X 0 → sd j ≤ X (17 + j)) ∧ (∀ o, o < X 1 → (K o = true ↔ X (122 + o) < sd (X (42 + o)))) ∧ s1 (h + 5) = s (h + 5) ∧ s1 h 9 = s h 9 ∧ s1 h 10 = s h 10 ∧ s_fr h (h + 8) s s1)) 6 [some (.ref h), some (.ref o), some (.int (nI e)), L3, L4, L5] [] s1 := by
    intro f
    induction f with
    | zero =>
      intro e s1 K r t rk sd rd L3 L4 L5 I he he2 hme
      exact absurd hme (by omega)
    | succ f ihr =>
      intro e s1 K r t rk sd rd L3 L4 L5 I he he2 hme
      have hC1 : c_R X s1 o := c_R_fr hC I.2.2.2.2.2.2.2.2.2.2.2.2 (Or.inl (by omega)) hz.1
      have hcl := x_ct_le (K := K) (X 1)
      refine r_iload_n dX10_compute_6 rfl rfl ?_
      refine n_bip 20 dX10_compute_7 (by decide) ?_
      refine n_cge (tgt := 131) dX10_compute_9 (by decide) (by omega) (by omega) (fun c9 => ?_) (fun c9 => ?_)
      · refine n_const 1 dX10_compute_131 (by decide) ?_
        refine s_iret dX10_compute_132 rfl rfl ?_
        have hA : ∀ k, k < X 1 → K k = true := x_ct_all _ (by omega)
        have hmx : x_mx X op K := fun q hq _ _ => hA q hq
        refine ⟨_, rfl, K, r, t, rk, sd, ?_, hmx, I.2.2.2.2.2.2.1, I.2.2.2.2.2.2.2.1, I.2.2.2.2.2.2.2.2.1, I.2.2.2.2.1, I.2.2.2.2.2.1, fun q hq => I.1 q hq (by omega), I.2.1, I.2.2.1, I.2.2.2.2.2.2.2.2.2⟩
        rw [x_sp_all hw I.2.2.2.2.2.2.2.1 hmx hA]
        rfl
      · refine r_aload_n dX10_compute_12 rfl rfl ?_
        refine s_getI dX10_compute_13 fX10_41 (layX10 hh) rfl I.2.2.2.2.1 ?_
        refine r_aload_n dX10_compute_16 rfl rfl ?_
        refine s_getI dX10_compute_17 fX10_44 (layX7 ho) rfl (cl_ops hC1) ?_
        refine n_cge (tgt := 131) dX10_compute_20 (by decide) (by omega) (by omega) (fun c20 => ?_) (fun c20 => ?_)
        · refine n_const 1 dX10_compute_131 (by decide) ?_
          refine s_iret dX10_compute_132 rfl rfl ?_
          have hA : ∀ k, k < X 1 → K k = true := x_ct_all _ (by omega)
          have hmx : x_mx X op K := fun q hq _ _ => hA q hq
          refine ⟨_, rfl, K, r, t, rk, sd, ?_, hmx, I.2.2.2.2.2.2.1, I.2.2.2.2.2.2.2.1, I.2.2.2.2.2.2.2.2.1, I.2.2.2.2.1, I.2.2.2.2.2.1, fun q hq => I.1 q hq (by omega), I.2.1, I.2.2.1, I.2.2.2.2.2.2.2.2.2⟩
          rw [x_sp_all hw I.2.2.2.2.2.2.2.1 hmx hA]
          rfl
        · refine r_aload_n dX10_compute_23 rfl rfl ?_
          refine s_getI dX10_compute_24 fX10_41 (layX10 hh) rfl I.2.2.2.2.1 ?_
          refine r_istore_n dX10_compute_27 rfl (by decide) rfl ?_
          refine n_const 0 dX10_compute_28 (by decide) ?_
          refine r_istore dX10_compute_29 (by decide) rfl ?_
          obtain ⟨ct0, hct0⟩ : ∃ c, c = x_ct K (X 1) := ⟨_, rfl⟩
          rw [← hct0]
          have jl : ∀ f2 j (L5 : Option Value) s1 K r t rk sd rd, (c_iv X op hk hu h s s1 K r t rk sd rd 99) → (x_ct K (X 1) = ct0 → ∀ q, q < j → x_sk X op sd rd q) → ct0 ≤ x_ct K (X 1) → j ≤ X 0 → X 0 < j + f2 → s_W G mX10_compute 3 0 0 (c_I (fun y9 s1 => ∃ (K : Nat → Bool) (r t rk sd : Nat → Nat), y9 = bI (x_sp X op hk hu).isSome ∧ x_mx X op K ∧ c_tm X op K r t s1 h ∧ x_TT X op hk hu K r t rk ∧ (∀ k, k < X 1 → K k = true → rk k < x_ct K (X 1)) ∧ s1 h 5 = nI (x_ct K (X 1)) ∧ s1 h 6 = nI (x_ke X K t) ∧ (∀ j, j < 5 → s1 (h + 6) j = nI (sd j)) ∧ (∀ j, j < X 0 → sd j ≤ X (17 + j)) ∧ (∀ o, o < X 1 → (K o = true ↔ X (122 + o) < sd (X (42 + o)))) ∧ s1 (h + 5) = s (h + 5) ∧ s1 h 9 = s h 9 ∧ s1 h 10 = s h 10 ∧ s_fr h (h + 8) s s1)) 31 [some (.ref h), some (.ref o), some (.int (nI e)), some (.int (nI ct0)), some (.int (nI j)), L5] [] s1 := by
            intro f2
            induction f2 with
            | zero =>
              intro j L5 s1 K r t rk sd rd I hsk hle hj0 hme
              exact absurd hme (by omega)
            | succ f2 ihj =>
              intro j L5 s1 K r t rk sd rd I hsk hle hj0 hme
              have hC1 : c_R X s1 o := c_R_fr hC I.2.2.2.2.2.2.2.2.2.2.2.2 (Or.inl (by omega)) hz.1
              have hcl := x_ct_le (K := K) (X 1)
              refine r_iload dX10_compute_31 rfl ?_
              refine r_aload_n dX10_compute_33 rfl rfl ?_
              refine s_getI dX10_compute_34 fX10_49 (layX7 ho) rfl (cl_jobs hC1) ?_
              refine n_cge (tgt := 115) dX10_compute_37 (by decide) (by omega) (by omega) (fun c37 => ?_) (fun c37 => ?_)
              · refine r_aload_n dX10_compute_115 rfl rfl ?_
                refine s_getI dX10_compute_116 fX10_41 (layX10 hh) rfl I.2.2.2.2.1 ?_
                refine r_iload_n dX10_compute_119 rfl rfl ?_
                refine n_cne (tgt := 125) dX10_compute_120 (by decide) (by omega) (by omega) (fun c120 => ?_) (fun c120 => ?_)
                · refine n_inc dX10_compute_125 rfl (n_i1 _) (by decide) rfl ?_
                  refine r_goto (tgt := 6) dX10_compute_128 (by decide) ?_
                  refine ihr _ s1 K r t rk sd rd _ _ _ I (by omega) (by omega) (by omega)
                · refine n_const 0 dX10_compute_123 (by decide) ?_
                  refine s_iret dX10_compute_124 rfl rfl ?_
                  have hmx : x_mx X op K := x_sk_mx hw I.2.2.1 (fun m hm => (I.2.2.2.1 m hm).2.2) (fun q hq => hsk c120 q (by omega))
                  refine ⟨_, rfl, K, r, t, rk, sd, ?_, hmx, I.2.2.2.2.2.2.1, I.2.2.2.2.2.2.2.1, I.2.2.2.2.2.2.2.2.1, I.2.2.2.2.1, I.2.2.2.2.2.1, fun q hq => I.1 q hq (by omega), I.2.1, I.2.2.1, I.2.2.2.2.2.2.2.2.2⟩
                  obtain ⟨k9, z1, z2⟩ := x_ct_lt (K := K) (n := X 1) (by omega)
                  rw [x_sp_not hw I.2.2.2.2.2.2.2.1 hmx z1 z2]
                  rfl
              · have hj := c37
                have hjl := x_jb hw hj
                have hsl := I.2.1 j hj
                refine r_aload_n dX10_compute_40 rfl rfl ?_
                refine s_getR dX10_compute_41 fX10_28 (layX10 hh) rfl ?_
                refine r_iload dX10_compute_44 rfl ?_
                refine a_ld dX10_compute_46 (X10_stepsDone hh) (by omega) (by decide) (I.1 _ (by omega) (by omega)) ?_
                refine r_istore dX10_compute_47 (by decide) rfl ?_
                have I9 : c_iv X op hk hu h s s1 K r t rk sd rd j := ⟨fun q h1 h2 => I.1 q h1 (by omega), I.2⟩
                have wl : ∀ f3 s1 K r t rk sd rd, (c_iv X op hk hu h s s1 K r t rk sd rd j) → (x_ct K (X 1) = ct0 → ∀ q, q < j → x_sk X op sd rd q) → ct0 ≤ x_ct K (X 1) → X (17 + j) < sd j + f3 → s_W G mX10_compute 3 0 0 (c_I (fun y9 s1 => ∃ (K : Nat → Bool) (r t rk sd : Nat → Nat), y9 = bI (x_sp X op hk hu).isSome ∧ x_mx X op K ∧ c_tm X op K r t s1 h ∧ x_TT X op hk hu K r t rk ∧ (∀ k, k < X 1 → K k = true → rk k < x_ct K (X 1)) ∧ s1 h 5 = nI (x_ct K (X 1)) ∧ s1 h 6 = nI (x_ke X K t) ∧ (∀ j, j < 5 → s1 (h + 6) j = nI (sd j)) ∧ (∀ j, j < X 0 → sd j ≤ X (17 + j)) ∧ (∀ o, o < X 1 → (K o = true ↔ X (122 + o) < sd (X (42 + o)))) ∧ s1 (h + 5) = s (h + 5) ∧ s1 h 9 = s h 9 ∧ s1 h 10 = s h 10 ∧ s_fr h (h + 8) s s1)) 49 [some (.ref h), some (.ref o), some (.int (nI e)), some (.int (nI ct0)), some (.int (nI j)), some (.int (nI (sd j)))] [] s1 := by
                  intro f3
                  induction f3 with
                  | zero =>
                    intro s1 K r t rk sd rd I hsk hle hme
                    have hsl9 := I.2.1 j hj
                    exact absurd hme (by omega)
                  | succ f3 ihw =>
                    intro s1 K r t rk sd rd I hsk hle hme
                    have hC1 : c_R X s1 o := c_R_fr hC I.2.2.2.2.2.2.2.2.2.2.2.2 (Or.inl (by omega)) hz.1
                    have hjl := x_jb hw hj
                    have hsl := I.2.1 j hj
                    refine r_iload dX10_compute_49 rfl ?_
                    refine r_aload_n dX10_compute_51 rfl rfl ?_
                    refine s_getR dX10_compute_52 fX10_52 (layX7 ho) rfl ?_
                    refine r_iload dX10_compute_55 rfl ?_
                    refine a_ld dX10_compute_57 (X7_stepCounts ho) (by omega) (by decide) (cl_len hC1 (by omega)) ?_
                    refine n_cge (tgt := 100) dX10_compute_58 (by decide) (by omega) (by omega) (fun c58 => ?_) (fun c58 => ?_)
                    · refine r_aload_n dX10_compute_100 rfl rfl ?_
                      refine s_getR dX10_compute_101 fX10_28 (layX10 hh) rfl ?_
                      refine r_iload dX10_compute_104 rfl ?_
                      refine r_iload dX10_compute_106 rfl ?_
                      refine a_st dX10_compute_108 (X10_stepsDone hh) (by omega) (by decide) (fun s2 hs2 hf2 => ?_)
                      refine n_inc dX10_compute_109 rfl (n_i1 _) (by decide) rfl ?_
                      refine r_goto (tgt := 31) dX10_compute_112 (by decide) ?_
                      refine ihj _ _ s2 K r t rk sd rd ?_ ?_ hle (by omega) (by omega)
                      · obtain ⟨i1, i2, i3, i4, i5, i6, i7, i8, i9, i10, i11, i12, i13⟩ := I
                        refine ⟨fun q h1 h2 => ?_, i2, i3, ?_, ?_, ?_, ?_, i8, i9, ?_, ?_, ?_, s_fr_tr i13 (s_fr_w hf2 (by omega) (by omega))⟩
                        · rw [hs2]
                          by_cases e : q = j
                          · subst e; rw [pk_us]
                          · rw [pk_un e]; exact i1 q h1 e
                        · rw [hf2 (h + 7) (by omega)]; exact i4
                        · rw [hf2 h (by omega)]; exact i5
                        · rw [hf2 h (by omega)]; exact i6
                        · intro q h1 h2; rw [hf2 (h + 1) (by omega), hf2 (h + 2) (by omega), hf2 (h + 3) (by omega), hf2 (h + 4) (by omega)]; exact i7 q h1 h2
                        · rw [hf2 (h + 5) (by omega)]; exact i10
                        · rw [hf2 h (by omega)]; exact i11
                        · rw [hf2 h (by omega)]; exact i12
                      · intro q q1 q2
                        by_cases e : q1 = j
                        · subst e
                          intro z1 k9 z2
                          first
                            | exact absurd z1 (by omega)
                            | (subst z2
                               rw [Bool.or_eq_false_iff] at c76
                               exact ⟨c76.1, of_decide_eq_false c76.2⟩)
                        · exact hsk q q1 (by omega)
                    · have hC1 : c_R X s1 o := c_R_fr hC I.2.2.2.2.2.2.2.2.2.2.2.2 (Or.inl (by omega)) hz.1
                      have hrt := x_rt hw hj c58
                      have hko := x_op hw hrt.1
                      have hop1 : s1 (h + 5) (X (62 + X (22 + 4 * j + sd j))) = bI (op (X (62 + X (22 + 4 * j + sd j)))) := by rw [I.2.2.2.2.2.2.2.2.2.1]; exact hop _ hko.2.2.2.2.2.2.1
                      have hm4 := I.2.2.2.1 _ hko.2.2.2.2.2.2.1
                      have hcl := x_ct_le (K := K) (X 1)
                      have hjl := x_jb hw hj
                      refine r_aload_n dX10_compute_61 rfl rfl ?_
                      refine r_aload_n dX10_compute_62 rfl rfl ?_
                      refine r_aload_n dX10_compute_63 rfl rfl ?_
                      refine s_getR dX10_compute_64 fX10_55 (layX7 ho) rfl ?_
                      refine r_iload dX10_compute_67 rfl ?_
                      refine a_ald dX10_compute_69 (X7_routes ho) (by omega) (by decide) ?_
                      refine r_iload dX10_compute_70 rfl ?_
                      refine a_ld dX10_compute_72 (X7_routes_row ho (by omega)) (by omega) (by decide) (cl_rt hC1 (by omega) (by omega)) ?_
                      refine s_V2I mX10_isNext dX10_compute_73 okX10_isNext lX10_59 npX10_isNext (layX10 hh) rfl (by decide) (by decide) (by decide) (Nat.le_of_ble_eq_true rfl) (Nat.le_of_ble_eq_true rfl) (c_isNext ho hh hC1 hw hrt.1 hm4.1 (by omega) hop1) (fun x s1 hq => ?_)
                      obtain ⟨rfl, e9⟩ := hq
                      subst e9
                      refine b_ifeq (tgt := 100) dX10_compute_76 (by decide) (fun c76 => ?_) (fun c76 => ?_)
                      · refine r_aload_n dX10_compute_100 rfl rfl ?_
                        refine s_getR dX10_compute_101 fX10_28 (layX10 hh) rfl ?_
                        refine r_iload dX10_compute_104 rfl ?_
                        refine r_iload dX10_compute_106 rfl ?_
                        refine a_st dX10_compute_108 (X10_stepsDone hh) (by omega) (by decide) (fun s2 hs2 hf2 => ?_)
                        refine n_inc dX10_compute_109 rfl (n_i1 _) (by decide) rfl ?_
                        refine r_goto (tgt := 31) dX10_compute_112 (by decide) ?_
                        refine ihj _ _ s2 K r t rk sd rd ?_ ?_ hle (by omega) (by omega)
                        · obtain ⟨i1, i2, i3, i4, i5, i6, i7, i8, i9, i10, i11, i12, i13⟩ := I
                          refine ⟨fun q h1 h2 => ?_, i2, i3, ?_, ?_, ?_, ?_, i8, i9, ?_, ?_, ?_, s_fr_tr i13 (s_fr_w hf2 (by omega) (by omega))⟩
                          · rw [hs2]
                            by_cases e : q = j
                            · subst e; rw [pk_us]
                            · rw [pk_un e]; exact i1 q h1 e
                          · rw [hf2 (h + 7) (by omega)]; exact i4
                          · rw [hf2 h (by omega)]; exact i5
                          · rw [hf2 h (by omega)]; exact i6
                          · intro q h1 h2; rw [hf2 (h + 1) (by omega), hf2 (h + 2) (by omega), hf2 (h + 3) (by omega), hf2 (h + 4) (by omega)]; exact i7 q h1 h2
                          · rw [hf2 (h + 5) (by omega)]; exact i10
                          · rw [hf2 h (by omega)]; exact i11
                          · rw [hf2 h (by omega)]; exact i12
                        · intro q q1 q2
                          by_cases e : q1 = j
                          · subst e
                            intro z1 k9 z2
                            first
                              | exact absurd z1 (by omega)
                              | (subst z2
                                 rw [Bool.or_eq_false_iff] at c76
                                 exact ⟨c76.1, of_decide_eq_false c76.2⟩)
                          · exact hsk q q1 (by omega)
                      · have hn : op (X (62 + X (22 + 4 * j + sd j))) = false → rd (X (62 + X (22 + 4 * j + sd j))) = x_po X (X (22 + 4 * j + sd j)) := fun q => by
                          rw [q, Bool.false_or] at c76
                          have q2 := of_decide_eq_true c76
                          have q3 := x_po_eq hw hko.2.2.2.2.2.2.1 q2.1
                          rw [q2.2] at q3
                          exact q3.symm
                        have hpl := c_iv_pl hw I hj c58 rfl hn hu2
                        refine r_aload_n dX10_compute_79 rfl rfl ?_
                        refine r_aload_n dX10_compute_80 rfl rfl ?_
                        refine r_aload_n dX10_compute_81 rfl rfl ?_
                        refine s_getR dX10_compute_82 fX10_55 (layX7 ho) rfl ?_
                        refine r_iload dX10_compute_85 rfl ?_
                        refine a_ald dX10_compute_87 (X7_routes ho) (by omega) (by decide) ?_
                        refine r_iload dX10_compute_88 rfl ?_
                        refine a_ld dX10_compute_90 (X7_routes_row ho (by omega)) (by omega) (by decide) (cl_rt hC1 (by omega) (by omega)) ?_
                        refine s_V2V mX10_place dX10_compute_91 okX10_place lX10_63 npX10_place (layX10 hh) rfl (by decide) (by decide) (by decide) (Nat.le_of_ble_eq_true rfl) (Nat.le_of_ble_eq_true rfl) (c_place ho hh hC1 hw hrt.1 I.2.2.2.2.2.2.2.1 hpl.1 hpl.2.1 hpl.2.2.1 hpl.2.2.2.1 hpl.2.2.2.2.1 hpl.2.2.2.2.2.1 hop1 (fun q => hn q) ⟨I.2.2.2.2.2.2.2.2.2.2.1.trans hH.1, I.2.2.2.2.2.2.2.2.2.2.2.1.trans hH.2⟩ I.2.2.2.2.2.1 I.2.2.2.2.1 hpl.2.2.2.2.2.2 (by omega) hu2 hh2) (fun s1 hq => ?_)
                        obtain ⟨I2, hct⟩ := c_iv_step hw hh I hj c58 rfl (fun q => hn q) rfl rfl hq
                        refine n_inc dX10_compute_94 rfl (n_i1 _) (by decide) rfl ?_
                        refine r_goto (tgt := 49) dX10_compute_97 (by decide) ?_
                        rw [← va_up_s (f := sd) (k := j) (v := sd j + 1)]
                        refine ihw _ _ _ _ _ _ _ I2 (fun q => absurd q (by omega)) (by omega) ?_
                        rw [va_up_s]; omega
                exact wl 10 s1 K r t rk sd rd I9 hsk hle (by omega)
          exact jl 6 0 _ s1 K r t rk sd rd I (fun _ q hq => absurd hq (by omega)) (by omega) (by omega) (by omega)
  refine r_aload_n dX10_compute_0 rfl rfl ?_
  refine s_V0V mX10_clear dX10_compute_1 okX10_clear lX10_38 npX10_clear (layX10 hh) rfl (by decide) (by decide) (by decide) (Nat.le_of_ble_eq_true rfl) (Nat.le_of_ble_eq_true rfl) (c_clear hh) (fun s1 hq => ?_)
  obtain ⟨q1, q2, q3⟩ := hq
  have hct : x_ct (fun _ => false) (X 1) = 0 := by
    generalize X 1 = n
    induction n with
    | zero => rfl
    | succ n ih => unfold x_ct; rw [ih]; rfl
  have I : c_iv X op hk hu h s s1 (fun _ => false) (fun _ => 0) (fun _ => 0) (fun _ => 0) (fun _ => 0) (fun _ => 0) 99 := by
    refine ⟨fun j h1 _ => q2 j h1, fun j _ => Nat.zero_le _, fun q _ => ⟨fun z => (by cases z), fun z => absurd z (Nat.not_lt_zero _)⟩, fun m hm => ⟨q3 m hm, Nat.zero_le _, fun _ q _ _ => ⟨fun z => (by cases z), fun z => absurd z (Nat.not_lt_zero _)⟩⟩, by rw [hct]; exact q1.1, ?_, fun q _ z => (by cases z), fun q _ z => (by cases z), fun q _ z => (by cases z), q1.2.2.2.2.1, q1.2.2.1, q1.2.2.2.1, q1.2.2.2.2.2⟩
    rw [q1.2.1]
    congr 1
    have := x_mxe_le (e := fun k => if (fun _ : Nat => false) k = true then (fun _ : Nat => 0) k + X (82 + k) else 0) (B := 0) (X 1) (fun k _ => Nat.le_refl _)
    unfold x_ke
    omega
  refine n_const 0 dX10_compute_4 (by decide) ?_
  refine r_istore_n dX10_compute_5 rfl (by decide) rfl ?_
  exact rl 21 0 s1 _ _ _ _ _ _ _ _ _ I (by omega) (by omega) (by omega)
