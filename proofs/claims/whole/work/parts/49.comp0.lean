/-! ===== the class's Timetable at h ===== -/
theorem x_rd_cl {X : x_T} {op : Nat → Bool} {hk : Option Nat} {hu : Nat} {K : Nat → Bool} {r t rk : Nat → Nat} {k : Nat} (hw : x_wf X) (T : x_TT X op hk hu K r t rk) (hk1 : k < X 1) (hj : ∀ q, x_jp X k = some q → K q = true) :
    max (if X (122 + k) = 0 then X (2 + X (42 + k)) else t (X (22 + 4 * X (42 + k) + (X (122 + k) - 1))) + X (82 + X (22 + 4 * X (42 + k) + (X (122 + k) - 1)))) (match x_mp X op k with | none => 0 | some q => t q + X (82 + q) + X (142 + 3 * X (102 + q) + X (102 + k))) = x_rd X op (fun q => t q + X (82 + q)) k := by
  unfold x_rd
  cases hjp : x_jp X k with
  | none =>
    have e : X (122 + k) = 0 := by
      unfold x_jp at hjp
      by_cases e : X (122 + k) = 0
      · exact e
      · rw [if_neg e] at hjp; cases hjp
    rw [if_pos e]
    cases x_mp X op k <;> dsimp only <;> omega
  | some q =>
    have h1 := x_jp_lt hw hk1 hjp
    have h2 := x_TT_bd hw T (rk q + 1) q h1.1 (by omega) (hj q hjp)
    have e : ¬ X (122 + k) = 0 := by omega
    rw [if_neg e, ← h1.2.2.2]
    rw [h1.2.1] at h2
    cases x_mp X op k <;> dsimp only <;> omega
def x_bx (bf : Option Nat) (b : Nat) (f : Nat → Nat) : Nat := match bf with
  | none => 0
  | some q => b + f q
theorem c_readyTime2 {G : q_G} {s : s_T} {X : x_T} {o k ke a b : Nat} {bf : Option Nat} (ho : isX7 o) (hC : c_R X s o) (hw : x_wf X) (hk : k < X 1) (hl : q_lay ke = .inl (0, 20, none)) (ha : 0 < X (122 + k) → s ke (X (22 + 4 * X (42 + k) + (X (122 + k) - 1))) = nI a) (hb : ∀ q, bf = some q → q < X 1 ∧ s ke q = nI b) (ha2 : a < 1000000) (hb2 : b < 1000000) : s_W G mX7_readyTime 1 0 0 (c_I (fun y9 s1 => s1 = s ∧ y9 = nI (max (if X (122 + k) = 0 then X (2 + X (42 + k)) else a) (x_bx bf b (fun q => X (142 + 3 * X (102 + q) + X (102 + k))))))) 0 (q_ent mX7_readyTime [.ref o, .int (nI k), .int (oI bf), .ref ke]) [] s := by
  cases bf with
  | none => exact c_readyTime (bf := none) ho hC hw hk hl ha hb ha2 hb2
  | some q => exact c_readyTime (bf := some q) ho hC hw hk hl ha hb ha2 hb2
theorem x_rd_le {X : x_T} {op : Nat → Bool} {E : Nat → Nat} {k B : Nat} (hw : x_wf X) (hk1 : k < X 1) (h0 : 99 ≤ B) (hj : ∀ q, q < X 1 → x_jp X k = some q → E q ≤ B) (hm : ∀ q, q < X 1 → x_mp X op k = some q → E q ≤ B) : x_rd X op E k ≤ B + 9 := by
  have hk2 := x_op hw hk1
  have hj2 := x_jb hw hk2.2.2.1
  unfold x_rd
  have b2 : ∀ q, x_mp X op k = some q → E q + X (142 + 3 * X (102 + q) + X (102 + k)) ≤ B + 9 := fun q hq => by
    have q1 := (x_mp_lt hw hk1 hq).1
    have := x_su hw (f := X (102 + q)) (g := X (102 + k)) (x_op hw q1).2.2.2.2.2.2.2.2.2 hk2.2.2.2.2.2.2.2.2.2
    have := hm q q1 hq
    omega
  have b1 : ∀ q, x_jp X k = some q → E q ≤ B := fun q hq => hj q (x_jp_lt hw hk1 hq).1 hq
  cases hjp : x_jp X k with
  | none =>
    cases hmp : x_mp X op k with
    | none => dsimp only; omega
    | some q => have := b2 q hmp; dsimp only; omega
  | some p =>
    have := b1 p hjp
    cases hmp : x_mp X op k with
    | none => dsimp only; omega
    | some q => have := b2 q hmp; dsimp only; omega
set_option maxRecDepth 20000 in
set_option maxHeartbeats 1000000 in
theorem c_place {G : q_G} {s : s_T} {X : x_T} {op : Nat → Bool} {hk : Option Nat} {hu : Nat} {K : Nat → Bool} {r t rk : Nat → Nat} {o h k rdm sp pl : Nat} (ho : isX7 o) (hh : isX10 h) (hC : c_R X s o) (hw : x_wf X) (hk1 : k < X 1) (T : x_TT X op hk hu K r t rk) (hrk : ∀ k, k < X 1 → K k = true → rk k < 20) (hj : ∀ q, x_jp X k = some q → K q = true) (hm : ∀ q, x_mp X op k = some q → K q = true) (hE : ∀ q, q < X 1 → K q = true → s (h + 3) q = nI (t q + X (82 + q))) (hrd : s (h + 7) (X (62 + k)) = nI rdm) (hrdb : rdm ≤ 20) (hopn : s (h + 5) (X (62 + k)) = bI (op (X (62 + k)))) (hpos : op (X (62 + k)) = false → rdm = x_po X k) (hhd : s h 9 = oI hk ∧ s h 10 = nI hu) (hsp : s h 6 = nI sp) (hpl : s h 5 = nI pl) (hsp2 : sp ≤ 500000) (hpl2 : pl ≤ 100) (hu2 : hu ≤ 50000) (hh2 : ∀ q, hk = some q → q < 20) : s_W G mX10_place 2 0 0 (c_V (fun s1 => s1 (h + 1) = upd (s (h + 1)) k (nI (x_rd X op (fun q => t q + X (82 + q)) k)) ∧ s1 (h + 2) = upd (s (h + 2)) k (nI (x_sv X hk hu (x_rd X op (fun q => t q + X (82 + q)) k) k)) ∧ s1 (h + 3) = upd (s (h + 3)) k (nI ((x_sv X hk hu (x_rd X op (fun q => t q + X (82 + q)) k) k) + X (82 + k))) ∧ s1 (h + 4) = upd (s (h + 4)) k (oI (x_mp X op k)) ∧ s1 (h + 7) = upd (s (h + 7)) (X (62 + k)) (nI (rdm + 1)) ∧ s1 h = upd (upd (s h) 6 (nI (max sp ((x_sv X hk hu (x_rd X op (fun q => t q + X (82 + q)) k) k) + X (82 + k))))) 5 (nI (pl + 1)) ∧ s1 (h + 5) = s (h + 5) ∧ s1 (h + 6) = s (h + 6) ∧ s_fr h (h + 8) s s1)) 0 (q_ent mX10_place [.ref h, .ref o, .int (nI k)]) [] s := by
  show s_W G mX10_place 2 0 0 _ 0 [some (.ref h), some (.ref o), some (.int (nI k)), none, none, none, none, none, none] [] s
  have hz := x_sz hw
  have hk2 := x_op hw hk1
  have ho2 := o7_le ho
  have hh3 := o10_le hh
  have hpo := x_po_ok hw hk1
  have hmn := x_mn hw hk2.2.2.2.2.2.2.1
  have hO := c_R_O hC
  have hbd : ∀ q, q < X 1 → K q = true → t q + X (82 + q) ≤ 100000 := fun q hq hKq => by
    have q1 := x_TT_bd hw T (rk q + 1) q hq (by omega) hKq
    have q2 := hrk q hq hKq
    omega
  obtain ⟨R, hR⟩ : ∃ R, R = (x_rd X op (fun q => t q + X (82 + q)) k) := ⟨_, rfl⟩
  obtain ⟨S, hS⟩ : ∃ S, S = x_sv X hk hu (x_rd X op (fun q => t q + X (82 + q)) k) k := ⟨_, rfl⟩
  have hRb : R ≤ 100100 := by
    have := x_rd_le (op := op) (E := fun q => t q + X (82 + q)) (B := 100000) hw hk1 (by omega) (fun q h1 h2 => hbd q h1 (hj q h2)) (fun q h1 h2 => hbd q h1 (hm q h2))
    omega
  have hSb : S ≤ 200000 := by
    rw [hS]
    unfold x_sv
    refine x_fr_le hw hk2.2.2.2.2.2.2.1 (by omega) ?_
    rw [← hR]
    split <;> omega
  have B : ∀ (E : Nat) (L5 : Option Value), E = (if hk = some k then max R hu else R) → E ≤ 200000 → s_W G mX10_place 2 0 0 (c_V (fun s1 => s1 (h + 1) = upd (s (h + 1)) k (nI (x_rd X op (fun q => t q + X (82 + q)) k)) ∧ s1 (h + 2) = upd (s (h + 2)) k (nI (x_sv X hk hu (x_rd X op (fun q => t q + X (82 + q)) k) k)) ∧ s1 (h + 3) = upd (s (h + 3)) k (nI ((x_sv X hk hu (x_rd X op (fun q => t q + X (82 + q)) k) k) + X (82 + k))) ∧ s1 (h + 4) = upd (s (h + 4)) k (oI (x_mp X op k)) ∧ s1 (h + 7) = upd (s (h + 7)) (X (62 + k)) (nI (rdm + 1)) ∧ s1 h = upd (upd (s h) 6 (nI (max sp ((x_sv X hk hu (x_rd X op (fun q => t q + X (82 + q)) k) k) + X (82 + k))))) 5 (nI (pl + 1)) ∧ s1 (h + 5) = s (h + 5) ∧ s1 (h + 6) = s (h + 6) ∧ s_fr h (h + 8) s s1)) 98 [some (.ref h), some (.ref o), some (.int (nI k)), some (.int (nI (X (62 + k)))), some (.int (nI rdm)), L5, some (.int (oI (x_mp X op k))), some (.int (nI R)), some (.int (nI E))] [] s := by
    intro E L5 hE hEb
    rw [hR] at hE
    have hS : S = x_fr X (X (62 + k)) (X (82 + k)) (if hk = some k then max (x_rd X op (fun q => t q + X (82 + q)) k) hu else (x_rd X op (fun q => t q + X (82 + q)) k)) := hS
    refine r_aload_n dX10_place_98 rfl rfl ?_
    refine s_getR dX10_place_99 fX10_9 (layX10 hh) rfl ?_
    refine r_iload_n dX10_place_102 rfl rfl ?_
    refine r_iload dX10_place_103 rfl ?_
    refine a_st dX10_place_105 (X10_ready hh) (by omega) (by decide) (fun s1 hs1 hf1 => ?_)
    have hC := c_R_fr hC hf1 (Or.inl (by omega)) hz.1
    refine r_aload_n dX10_place_106 rfl rfl ?_
    refine s_getR dX10_place_107 fX10_15 (layX10 hh) rfl ?_
    refine r_iload_n dX10_place_110 rfl rfl ?_
    refine r_aload_n dX10_place_111 rfl rfl ?_
    refine r_iload_n dX10_place_112 rfl rfl ?_
    refine r_iload dX10_place_113 rfl ?_
    refine s_V2I mX7_startFrom dX10_place_115 okX7_startFrom lX10_111 npX7_startFrom (layX7 ho) rfl (by decide) (by decide) (by decide) (Nat.le_of_ble_eq_true rfl) (Nat.le_of_ble_eq_true rfl) (c_startFrom ho hC hw hk1 (by omega)) (fun x s1 hq => ?_)
    obtain ⟨rfl, e9⟩ := hq
    have e9 : x = nI S := e9.trans (by rw [hS, hE])
    subst e9
    refine a_st dX10_place_118 (X10_start hh) (by omega) (by decide) (fun s2 hs2 hf2 => ?_)
    have hC := c_R_fr hC hf2 (Or.inl (by omega)) hz.1
    refine r_aload_n dX10_place_119 rfl rfl ?_
    refine s_getR dX10_place_120 fX10_18 (layX10 hh) rfl ?_
    refine r_iload_n dX10_place_123 rfl rfl ?_
    refine r_aload_n dX10_place_124 rfl rfl ?_
    refine s_getR dX10_place_125 fX10_15 (layX10 hh) rfl ?_
    refine r_iload_n dX10_place_128 rfl rfl ?_
    refine a_ld dX10_place_129 (X10_start hh) (by omega) (by decide) (show s2 (h + 2) k = nI S by rw [hs2, pk_us]) ?_
    refine r_aload_n dX10_place_130 rfl rfl ?_
    refine s_getR dX10_place_131 fX10_114 (layX7 ho) rfl ?_
    refine r_iload_n dX10_place_134 rfl rfl ?_
    refine a_ld dX10_place_135 (X7_durations ho) (by omega) (by decide) (cl_du hC (by omega)) ?_
    refine n_add dX10_place_136 ?_
    refine a_st dX10_place_137 (X10_end hh) (by omega) (by decide) (fun s3 hs3 hf3 => ?_)
    refine r_aload_n dX10_place_138 rfl rfl ?_
    refine r_aload_n dX10_place_139 rfl rfl ?_
    refine s_getI dX10_place_140 fX10_83 (layX10 hh) rfl (show s3 h 6 = nI sp by rw [hf3 h (by omega), hf2 h (by omega), hf1 h (by omega)]; exact hsp) ?_
    refine r_aload_n dX10_place_143 rfl rfl ?_
    refine s_getR dX10_place_144 fX10_18 (layX10 hh) rfl ?_
    refine r_iload_n dX10_place_147 rfl rfl ?_
    refine a_ld dX10_place_148 (X10_end hh) (by omega) (by decide) (show s3 (h + 3) k = nI (S + X (82 + k)) by rw [hs3, pk_us]) ?_
    refine r_mmax dX10_place_149 kwM_X10_max kwM_static_max kwM_ini kwM_code_max (by decide) (Nat.le_of_ble_eq_true rfl) ?_
    rw [nI_max (by omega) (by omega)]
    refine a_put dX10_place_152 gX10_83 (layX10 hh) rfl rfl rfl (fun s4 hs4 hf4 => ?_)
    refine r_aload_n dX10_place_155 rfl rfl ?_
    refine s_getR dX10_place_156 fX10_21 (layX10 hh) rfl ?_
    refine r_iload_n dX10_place_159 rfl rfl ?_
    refine r_iload dX10_place_160 rfl ?_
    refine a_st dX10_place_162 (X10_machineBefore hh) (by omega) (by decide) (fun s5 hs5 hf5 => ?_)
    refine r_aload_n dX10_place_163 rfl rfl ?_
    refine s_getR dX10_place_164 fX10_31 (layX10 hh) rfl ?_
    refine r_iload_n dX10_place_167 rfl rfl ?_
    refine r_iload dX10_place_168 rfl ?_
    refine n_const 1 dX10_place_170 (by decide) ?_
    refine n_add dX10_place_171 ?_
    refine a_st dX10_place_172 (X10_rowDone hh) (by omega) (by decide) (fun s6 hs6 hf6 => ?_)
    refine r_aload_n dX10_place_173 rfl rfl ?_
    refine r_dup dX10_place_174 rfl ?_
    refine s_getI dX10_place_175 fX10_41 (layX10 hh) rfl (show s6 h 5 = nI pl by rw [hf6 h (by omega), hf5 h (by omega), hs4, pk_un (by decide), hf3 h (by omega), hf2 h (by omega), hf1 h (by omega)]; exact hpl) ?_
    refine n_const 1 dX10_place_178 (by decide) ?_
    refine n_add dX10_place_179 ?_
    refine a_put dX10_place_180 gX10_41 (layX10 hh) rfl rfl rfl (fun s7 hs7 hf7 => ?_)
    refine s_vret dX10_place_183 rfl ?_
    subst hR
    have hS2 : S = x_sv X hk hu (x_rd X op (fun q => t q + X (82 + q)) k) k := hS
    rw [← hS2]
    refine ⟨rfl, ?_, ?_, ?_, ?_, ?_, ?_, ?_, ?_, ?_⟩
    · rw [hf7 _ (by omega), hf6 _ (by omega), hf5 _ (by omega), hf4 _ (by omega), hf3 _ (by omega), hf2 _ (by omega), hs1]
    · rw [hf7 _ (by omega), hf6 _ (by omega), hf5 _ (by omega), hf4 _ (by omega), hf3 _ (by omega), hs2, hf1 _ (by omega)]
    · rw [hf7 _ (by omega), hf6 _ (by omega), hf5 _ (by omega), hf4 _ (by omega), hs3, hf2 _ (by omega), hf1 _ (by omega)]
    · rw [hf7 _ (by omega), hf6 _ (by omega), hs5, hf4 _ (by omega), hf3 _ (by omega), hf2 _ (by omega), hf1 _ (by omega)]
    · rw [hf7 _ (by omega), hs6, hf5 _ (by omega), hf4 _ (by omega), hf3 _ (by omega), hf2 _ (by omega), hf1 _ (by omega)]
    · rw [hs7, hf6 _ (by omega), hf5 _ (by omega), hs4, hf3 _ (by omega), hf2 _ (by omega), hf1 _ (by omega)]
    · rw [hf7 _ (by omega), hf6 _ (by omega), hf5 _ (by omega), hf4 _ (by omega), hf3 _ (by omega), hf2 _ (by omega), hf1 _ (by omega)]
    · rw [hf7 _ (by omega), hf6 _ (by omega), hf5 _ (by omega), hf4 _ (by omega), hf3 _ (by omega), hf2 _ (by omega), hf1 _ (by omega)]
    · intro q hq
      rw [hf7 _ (by omega), hf6 _ (by omega), hf5 _ (by omega), hf4 _ (by omega), hf3 _ (by omega), hf2 _ (by omega), hf1 _ (by omega)]
  have A : ∀ (v6 : Int32) (L5 L7 L8 : Option Value), v6 = oI (x_mp X op k) → s_W G mX10_place 2 0 0 (c_V (fun s1 => s1 (h + 1) = upd (s (h + 1)) k (nI (x_rd X op (fun q => t q + X (82 + q)) k)) ∧ s1 (h + 2) = upd (s (h + 2)) k (nI (x_sv X hk hu (x_rd X op (fun q => t q + X (82 + q)) k) k)) ∧ s1 (h + 3) = upd (s (h + 3)) k (nI ((x_sv X hk hu (x_rd X op (fun q => t q + X (82 + q)) k) k) + X (82 + k))) ∧ s1 (h + 4) = upd (s (h + 4)) k (oI (x_mp X op k)) ∧ s1 (h + 7) = upd (s (h + 7)) (X (62 + k)) (nI (rdm + 1)) ∧ s1 h = upd (upd (s h) 6 (nI (max sp ((x_sv X hk hu (x_rd X op (fun q => t q + X (82 + q)) k) k) + X (82 + k))))) 5 (nI (pl + 1)) ∧ s1 (h + 5) = s (h + 5) ∧ s1 (h + 6) = s (h + 6) ∧ s_fr h (h + 8) s s1)) 61 [some (.ref h), some (.ref o), some (.int (nI k)), some (.int (nI (X (62 + k)))), some (.int (nI rdm)), L5, some (.int (v6)), L7, L8] [] s := by
    intro v6 L5 L7 L8 e6
    subst e6
    have ha1 : 0 < X (122 + k) → s (h + 3) (X (22 + 4 * X (42 + k) + (X (122 + k) - 1))) = nI (t (X (22 + 4 * X (42 + k) + (X (122 + k) - 1))) + X (82 + X (22 + 4 * X (42 + k) + (X (122 + k) - 1)))) := fun q => by
      have e : x_jp X k = some (X (22 + 4 * X (42 + k) + (X (122 + k) - 1))) := by unfold x_jp; rw [if_neg (by omega)]
      exact hE _ (x_jp_lt hw hk1 e).1 (hj _ e)
    obtain ⟨b1, hb1, hb3⟩ : ∃ b1, (∀ q, x_mp X op k = some q → q < X 1 ∧ s (h + 3) q = nI b1) ∧ (b1 < 1000000 ∧ (∀ q, x_mp X op k = some q → b1 = t q + X (82 + q))) := by
      cases hmp : x_mp X op k with
      | none => exact ⟨0, fun q e => (by cases e), by decide, fun q e => (by cases e)⟩
      | some q =>
        have q1 := (x_mp_lt hw hk1 hmp).1
        have := hbd q q1 (hm q hmp)
        exact ⟨t q + X (82 + q), fun q' e => (by cases e; exact ⟨q1, hE q q1 (hm q hmp)⟩), by omega, fun q' e => (by cases e; rfl)⟩
    have hb2 := hb3.1
    by_cases hst : X (122 + k) = 0
    · have hRR : max (if X (122 + k) = 0 then X (2 + X (42 + k)) else 0) (x_bx (x_mp X op k) b1 (fun q => X (142 + 3 * X (102 + q) + X (102 + k)))) = R := by
        rw [hR, ← x_rd_cl hw T hk1 hj, if_pos hst, if_pos hst]
        cases hmp : x_mp X op k with
        | none => rfl
        | some q => unfold x_bx; rw [hb3.2 q hmp]
      have ha1 : 0 < X (122 + k) → s (h + 3) (X (22 + 4 * X (42 + k) + (X (122 + k) - 1))) = nI 0 := fun q => absurd hst (by omega)
      refine r_aload_n dX10_place_61 rfl rfl ?_
      refine r_iload_n dX10_place_62 rfl rfl ?_
      refine r_iload dX10_place_63 rfl ?_
      refine r_aload_n dX10_place_65 rfl rfl ?_
      refine s_getR dX10_place_66 fX10_18 (layX10 hh) rfl ?_
      refine s_V3I mX7_readyTime dX10_place_69 okX7_readyTime lX10_101 npX7_readyTime (layX7 ho) rfl (by decide) (by decide) (by decide) (Nat.le_of_ble_eq_true rfl) (Nat.le_of_ble_eq_true rfl) (c_readyTime2 (bf := x_mp X op k) (a := 0) (b := b1) ho hC hw hk1 (X10_end hh) ha1 hb1 (by decide) hb2) (fun x s1 hq => ?_)
      obtain ⟨rfl, e9⟩ := hq
      have e9 : x = nI R := e9.trans (congrArg nI hRR)
      subst e9
      refine r_istore dX10_place_72 (by decide) rfl ?_
      cases hk with
      | none =>
        refine r_iload_n dX10_place_74 rfl rfl ?_
        refine r_aload_n dX10_place_75 rfl rfl ?_
        refine s_getI dX10_place_76 fX10_34 (layX10 hh) rfl hhd.1 ?_
        refine r_icmp_ne (tgt := 94) dX10_place_79 (by decide) (fun c79 => ?_) (fun c79 => ?_)
        · refine r_iload dX10_place_94 rfl ?_
          refine r_istore dX10_place_96 (by decide) rfl ?_
          exact B _ _ (by rw [if_neg (fun q => by cases q)]) (by omega)
        · exact absurd c79 (nI_m1 (by omega))
      | some h9 =>
        have hh9 := hh2 h9 rfl
        by_cases e : h9 = k
        · subst e
          refine r_iload_n dX10_place_74 rfl rfl ?_
          refine r_aload_n dX10_place_75 rfl rfl ?_
          refine s_getI dX10_place_76 fX10_34 (layX10 hh) rfl hhd.1 ?_
          refine r_icmp_ne (tgt := 94) dX10_place_79 (by decide) (fun c79 => ?_) (fun c79 => ?_)
          · exact absurd rfl c79
          · refine r_iload dX10_place_82 rfl ?_
            refine r_aload_n dX10_place_84 rfl rfl ?_
            refine s_getI dX10_place_85 fX10_67 (layX10 hh) rfl hhd.2 ?_
            refine r_mmax dX10_place_88 kwM_X10_max kwM_static_max kwM_ini kwM_code_max (by decide) (Nat.le_of_ble_eq_true rfl) ?_
            rw [nI_max (by omega) (by omega)]
            refine r_goto (tgt := 96) dX10_place_91 (by decide) ?_
            refine r_istore dX10_place_96 (by decide) rfl ?_
            exact B _ _ (by rw [if_pos rfl]) (by omega)
        · have e2 : ¬ nI k = nI h9 := fun q => e ((nI_eq (by omega) (by omega)).mp q).symm
          refine r_iload_n dX10_place_74 rfl rfl ?_
          refine r_aload_n dX10_place_75 rfl rfl ?_
          refine s_getI dX10_place_76 fX10_34 (layX10 hh) rfl hhd.1 ?_
          refine r_icmp_ne (tgt := 94) dX10_place_79 (by decide) (fun c79 => ?_) (fun c79 => ?_)
          · refine r_iload dX10_place_94 rfl ?_
            refine r_istore dX10_place_96 (by decide) rfl ?_
            exact B _ _ (by rw [if_neg (fun q => e (Option.some.inj q))]) (by omega)
          · exact absurd c79 e2
    · have hRR : max (if X (122 + k) = 0 then X (2 + X (42 + k)) else t (X (22 + 4 * X (42 + k) + (X (122 + k) - 1))) + X (82 + X (22 + 4 * X (42 + k) + (X (122 + k) - 1)))) (x_bx (x_mp X op k) b1 (fun q => X (142 + 3 * X (102 + q) + X (102 + k)))) = R := by
        rw [hR, ← x_rd_cl hw T hk1 hj, if_neg hst]
        cases hmp : x_mp X op k with
        | none => rfl
        | some q => unfold x_bx; rw [hb3.2 q hmp]
      have ha2 : t (X (22 + 4 * X (42 + k) + (X (122 + k) - 1))) + X (82 + X (22 + 4 * X (42 + k) + (X (122 + k) - 1))) < 1000000 := by
        have e : x_jp X k = some (X (22 + 4 * X (42 + k) + (X (122 + k) - 1))) := by unfold x_jp; rw [if_neg (by omega)]
        have := hbd _ (x_jp_lt hw hk1 e).1 (hj _ e)
        omega
      refine r_aload_n dX10_place_61 rfl rfl ?_
      refine r_iload_n dX10_place_62 rfl rfl ?_
      refine r_iload dX10_place_63 rfl ?_
      refine r_aload_n dX10_place_65 rfl rfl ?_
      refine s_getR dX10_place_66 fX10_18 (layX10 hh) rfl ?_
      refine s_V3I mX7_readyTime dX10_place_69 okX7_readyTime lX10_101 npX7_readyTime (layX7 ho) rfl (by decide) (by decide) (by decide) (Nat.le_of_ble_eq_true rfl) (Nat.le_of_ble_eq_true rfl) (c_readyTime2 (bf := x_mp X op k) (a := t (X (22 + 4 * X (42 + k) + (X (122 + k) - 1))) + X (82 + X (22 + 4 * X (42 + k) + (X (122 + k) - 1)))) (b := b1) ho hC hw hk1 (X10_end hh) ha1 hb1 ha2 hb2) (fun x s1 hq => ?_)
      obtain ⟨rfl, e9⟩ := hq
      have e9 : x = nI R := e9.trans (congrArg nI hRR)
      subst e9
      refine r_istore dX10_place_72 (by decide) rfl ?_
      cases hk with
      | none =>
        refine r_iload_n dX10_place_74 rfl rfl ?_
        refine r_aload_n dX10_place_75 rfl rfl ?_
        refine s_getI dX10_place_76 fX10_34 (layX10 hh) rfl hhd.1 ?_
        refine r_icmp_ne (tgt := 94) dX10_place_79 (by decide) (fun c79 => ?_) (fun c79 => ?_)
        · refine r_iload dX10_place_94 rfl ?_
          refine r_istore dX10_place_96 (by decide) rfl ?_
          exact B _ _ (by rw [if_neg (fun q => by cases q)]) (by omega)
        · exact absurd c79 (nI_m1 (by omega))
      | some h9 =>
        have hh9 := hh2 h9 rfl
        by_cases e : h9 = k
        · subst e
          refine r_iload_n dX10_place_74 rfl rfl ?_
          refine r_aload_n dX10_place_75 rfl rfl ?_
          refine s_getI dX10_place_76 fX10_34 (layX10 hh) rfl hhd.1 ?_
          refine r_icmp_ne (tgt := 94) dX10_place_79 (by decide) (fun c79 => ?_) (fun c79 => ?_)
          · exact absurd rfl c79
          · refine r_iload dX10_place_82 rfl ?_
            refine r_aload_n dX10_place_84 rfl rfl ?_
            refine s_getI dX10_place_85 fX10_67 (layX10 hh) rfl hhd.2 ?_
            refine r_mmax dX10_place_88 kwM_X10_max kwM_static_max kwM_ini kwM_code_max (by decide) (Nat.le_of_ble_eq_true rfl) ?_
            rw [nI_max (by omega) (by omega)]
            refine r_goto (tgt := 96) dX10_place_91 (by decide) ?_
            refine r_istore dX10_place_96 (by decide) rfl ?_
            exact B _ _ (by rw [if_pos rfl]) (by omega)
        · have e2 : ¬ nI k = nI h9 := fun q => e ((nI_eq (by omega) (by omega)).mp q).symm
          refine r_iload_n dX10_place_74 rfl rfl ?_
          refine r_aload_n dX10_place_75 rfl rfl ?_
          refine s_getI dX10_place_76 fX10_34 (layX10 hh) rfl hhd.1 ?_
          refine r_icmp_ne (tgt := 94) dX10_place_79 (by decide) (fun c79 => ?_) (fun c79 => ?_)
          · refine r_iload dX10_place_94 rfl ?_
            refine r_istore dX10_place_96 (by decide) rfl ?_
            exact B _ _ (by rw [if_neg (fun q => e (Option.some.inj q))]) (by omega)
          · exact absurd c79 e2
  refine r_aload_n dX10_place_0 rfl rfl ?_
  refine s_getR dX10_place_1 fX10_86 (layX7 ho) rfl ?_
  refine r_iload_n dX10_place_4 rfl rfl ?_
  refine a_ld dX10_place_5 (X7_machineOf ho) (by omega) (by decide) (cl_mc hC (by omega)) ?_
  refine r_istore_n dX10_place_6 rfl (by decide) rfl ?_
  refine r_aload_n dX10_place_7 rfl rfl ?_
  refine s_getR dX10_place_8 fX10_31 (layX10 hh) rfl ?_
  refine r_iload_n dX10_place_11 rfl rfl ?_
  refine a_ld dX10_place_12 (X10_rowDone hh) (by omega) (by decide) hrd ?_
  refine r_istore dX10_place_13 (by decide) rfl ?_
  refine r_iload dX10_place_15 rfl ?_
  refine n_ifle (tgt := 33) dX10_place_17 (by decide) (by omega) (fun c17 => ?_) (fun c17 => ?_)
  · refine n_const 0 dX10_place_33 (by decide) ?_
    refine r_istore dX10_place_34 (by decide) rfl ?_
    refine r_iload dX10_place_36 rfl ?_
    refine n_ifeq (tgt := 58) dX10_place_38 (by decide) (by omega) (fun c38 => ?_) (fun c38 => ?_)
    · refine r_iconst (v := -1) dX10_place_58 (by decide) ?_
      refine r_istore dX10_place_59 (by decide) rfl ?_
      refine A _ _ _ _ ?_
      unfold x_mp
      rw [if_pos]
      · rfl
      · cases hb9 : op (X (62 + k)) with
        | true => exact Or.inl rfl
        | false => exact Or.inr (by have := hpos hb9; omega)
    · exact absurd c38 (by decide)
  · refine r_aload_n dX10_place_20 rfl rfl ?_
    refine s_getR dX10_place_21 fX10_24 (layX10 hh) rfl ?_
    refine r_iload_n dX10_place_24 rfl rfl ?_
    refine a_zld dX10_place_25 (X10_open hh) (by omega) (by decide) hopn ?_
    refine b_ifne (tgt := 33) dX10_place_26 (by decide) (fun c26 => ?_) (fun c26 => ?_)
    · refine n_const 0 dX10_place_33 (by decide) ?_
      refine r_istore dX10_place_34 (by decide) rfl ?_
      refine r_iload dX10_place_36 rfl ?_
      refine n_ifeq (tgt := 58) dX10_place_38 (by decide) (by omega) (fun c38 => ?_) (fun c38 => ?_)
      · refine r_iconst (v := -1) dX10_place_58 (by decide) ?_
        refine r_istore dX10_place_59 (by decide) rfl ?_
        refine A _ _ _ _ ?_
        unfold x_mp
        rw [if_pos (Or.inl c26)]
        rfl
      · exact absurd c38 (by decide)
    · have hp := hpos c26
      refine n_const 1 dX10_place_29 (by decide) ?_
      refine r_goto (tgt := 34) dX10_place_30 (by decide) ?_
      refine r_istore dX10_place_34 (by decide) rfl ?_
      refine r_iload dX10_place_36 rfl ?_
      refine n_ifeq (tgt := 58) dX10_place_38 (by decide) (by omega) (fun c38 => ?_) (fun c38 => ?_)
      · exact absurd c38 (by decide)
      · refine r_aload_n dX10_place_41 rfl rfl ?_
        refine s_getR dX10_place_42 fX10_89 (layX7 ho) rfl ?_
        refine s_getR dX10_place_45 fX10_98 (layX5 (X7_orders ho)) rfl ?_
        refine r_iload_n dX10_place_48 rfl rfl ?_
        refine a_ald dX10_place_49 (X5_rows (X7_orders ho)) (by omega) (by decide) ?_
        refine r_iload dX10_place_50 rfl ?_
        refine n_const 1 dX10_place_52 (by decide) ?_
        refine n_sub dX10_place_53 (by omega) ?_
        refine a_ld dX10_place_54 (X5_rows_row (X7_orders ho) (by omega)) (by omega) (by decide) (co_ord hO (by omega) (by omega)) ?_
        refine r_goto (tgt := 59) dX10_place_55 (by decide) ?_
        refine r_istore dX10_place_59 (by decide) rfl ?_
        refine A _ _ _ _ ?_
        unfold x_mp
        rw [if_neg (fun q => q.elim (fun q => by rw [c26] at q; cases q) (fun q => by omega)), ← hp]
        rfl
