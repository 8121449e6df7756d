/-! ===== the class's leaves: Orders, Shop ===== -/
theorem i_nlt {x y : Int32} (h : ¬ x < y) : y ≤ x := by rw [Int32.le_iff_toInt_le]; rw [Int32.lt_iff_toInt_lt] at h; omega
theorem i_nle {x y : Int32} (h : ¬ x ≤ y) : y < x := by rw [Int32.lt_iff_toInt_lt]; rw [Int32.le_iff_toInt_le] at h; omega
theorem i_lt_le {x y : Int32} (h : x < y) (h2 : y ≤ x) : False := by rw [Int32.lt_iff_toInt_lt] at h; rw [Int32.le_iff_toInt_le] at h2; omega
def oI (b : Option Nat) : Int32 := match b with
  | none => -1
  | some q => nI q
/-- the orders at q hold those of the shop X -/
def c_O (X : x_T) (s : s_T) (q : Nat) : Prop := ∀ m, m < 4 → s (q + 1) m = nI (X (179 + m)) ∧ ∀ p, p < X (179 + m) → s (q + 3 + m) p = nI (X (183 + 5 * m + p))
theorem co_on {X : x_T} {s : s_T} {q : Nat} (h : c_O X s q) {m : Nat} (hm : m < 4) : s (q + 1) m = nI (X (179 + m)) := (h m hm).1
theorem co_ord {X : x_T} {s : s_T} {q : Nat} (h : c_O X s q) {m p : Nat} (hm : m < 4) (hp : p < X (179 + m)) : s (q + 3 + m) p = nI (X (183 + 5 * m + p)) := (h m hm).2 p hp
theorem c_R_O {X : x_T} {s : s_T} {o : Nat} (h : c_R X s o) : c_O X s (o + 34) := fun m hm => by
  have h1 := h.2.2.2.2.2 m hm
  rw [show o + 34 + 1 = o + 35 by omega, show o + 34 + 3 + m = o + 37 + m by omega]
  exact h1
set_option maxRecDepth 20000 in
set_option maxHeartbeats 1000000 in
theorem c_setupBetween {G : q_G} {s : s_T} {X : x_T} {o a b : Nat} (ho : isX7 o) (hC : c_R X s o) (hw : x_wf X) (ha : a < X 1) (hb : b < X 1) : s_W G mX7_setupBetween 1 0 0 (c_I (fun y9 s1 => s1 = s ∧ y9 = nI (X (142 + 3 * X (102 + a) + X (102 + b))))) 0 (q_ent mX7_setupBetween [.ref o, .int (nI a), .int (nI b)]) [] s := by
  show s_W G mX7_setupBetween 1 0 0 _ 0 [some (.ref o), some (.int (nI a)), some (.int (nI b))] [] s
  have ha2 := x_op hw ha
  have hb2 := x_op hw hb
  refine r_aload_n dX7_setupBetween_0 rfl rfl ?_
  refine s_getR dX7_setupBetween_1 fX7_38 (layX7 ho) rfl ?_
  refine r_aload_n dX7_setupBetween_4 rfl rfl ?_
  refine s_getR dX7_setupBetween_5 fX7_32 (layX7 ho) rfl ?_
  refine r_iload_n dX7_setupBetween_8 rfl rfl ?_
  refine a_ld dX7_setupBetween_9 (X7_families ho) (by omega) (by decide) (cl_fa hC (by omega)) ?_
  refine a_ald dX7_setupBetween_10 (X7_setups ho) (by omega) (by decide) ?_
  refine r_aload_n dX7_setupBetween_11 rfl rfl ?_
  refine s_getR dX7_setupBetween_12 fX7_32 (layX7 ho) rfl ?_
  refine r_iload_n dX7_setupBetween_15 rfl rfl ?_
  refine a_ld dX7_setupBetween_16 (X7_families ho) (by omega) (by decide) (cl_fa hC (by omega)) ?_
  refine a_ld dX7_setupBetween_17 (X7_setups_row ho (by omega)) (by omega) (by decide) (cl_su hC (by omega) (by omega)) ?_
  refine s_iret dX7_setupBetween_18 rfl rfl ?_
  exact ⟨_, rfl, rfl, rfl⟩
set_option maxRecDepth 20000 in
set_option maxHeartbeats 1000000 in
theorem c_jobPredecessor {G : q_G} {s : s_T} {X : x_T} {o k : Nat} (ho : isX7 o) (hC : c_R X s o) (hw : x_wf X) (hk : k < X 1) : s_W G mX7_jobPredecessor 1 0 0 (c_I (fun y9 s1 => s1 = s ∧ y9 = oI (if X (122 + k) = 0 then none else some (X (22 + 4 * X (42 + k) + (X (122 + k) - 1)))))) 0 (q_ent mX7_jobPredecessor [.ref o, .int (nI k)]) [] s := by
  show s_W G mX7_jobPredecessor 1 0 0 _ 0 [some (.ref o), some (.int (nI k)), none] [] s
  have hk2 := x_op hw hk
  refine r_aload_n dX7_jobPredecessor_0 rfl rfl ?_
  refine s_getR dX7_jobPredecessor_1 fX7_35 (layX7 ho) rfl ?_
  refine r_iload_n dX7_jobPredecessor_4 rfl rfl ?_
  refine a_ld dX7_jobPredecessor_5 (X7_stepOf ho) (by omega) (by decide) (cl_st hC (by omega)) ?_
  refine r_istore_n dX7_jobPredecessor_6 rfl (by decide) rfl ?_
  refine r_iload_n dX7_jobPredecessor_7 rfl rfl ?_
  refine n_ifle (tgt := 29) dX7_jobPredecessor_8 (by decide) (by omega) (fun c8 => ?_) (fun c8 => ?_)
  · refine r_iconst (v := -1) dX7_jobPredecessor_29 (by decide) ?_
    refine s_iret dX7_jobPredecessor_30 rfl rfl ?_
    first | (rw [if_pos (by omega)]; exact ⟨_, rfl, rfl, rfl⟩) | (rw [if_neg (by omega)]; exact ⟨_, rfl, rfl, rfl⟩)
  · refine r_aload_n dX7_jobPredecessor_11 rfl rfl ?_
    refine s_getR dX7_jobPredecessor_12 fX7_20 (layX7 ho) rfl ?_
    refine r_aload_n dX7_jobPredecessor_15 rfl rfl ?_
    refine s_getR dX7_jobPredecessor_16 fX7_23 (layX7 ho) rfl ?_
    refine r_iload_n dX7_jobPredecessor_19 rfl rfl ?_
    refine a_ld dX7_jobPredecessor_20 (X7_jobOf ho) (by omega) (by decide) (cl_job hC (by omega)) ?_
    refine a_ald dX7_jobPredecessor_21 (X7_routes ho) (by omega) (by decide) ?_
    refine r_iload_n dX7_jobPredecessor_22 rfl rfl ?_
    refine n_const 1 dX7_jobPredecessor_23 (by decide) ?_
    refine n_sub dX7_jobPredecessor_24 (by omega) ?_
    refine a_ld dX7_jobPredecessor_25 (X7_routes_row ho (by omega)) (by omega) (by decide) (cl_rt hC (by omega) (by omega)) ?_
    refine r_goto (tgt := 30) dX7_jobPredecessor_26 (by decide) ?_
    refine s_iret dX7_jobPredecessor_30 rfl rfl ?_
    first | (rw [if_pos (by omega)]; exact ⟨_, rfl, rfl, rfl⟩) | (rw [if_neg (by omega)]; exact ⟨_, rfl, rfl, rfl⟩)
set_option maxRecDepth 20000 in
set_option maxHeartbeats 1000000 in
theorem c_contains {G : q_G} {s : s_T} {X : x_T} {q m : Nat} {x : Int32} (hq : isX5 q) (hO : c_O X s q) (hm : m < 4) : s_W G mX5_contains 1 0 0 (c_I (fun y9 s1 => s1 = s ∧ y9 = bI (decide (0 ≤ x ∧ x < nI (X (179 + m)))))) 0 (q_ent mX5_contains [.ref q, .int (nI m), .int x]) [] s := by
  show s_W G mX5_contains 1 0 0 _ 0 [some (.ref q), some (.int (nI m)), some (.int x)] [] s
  refine r_iload_n dX5_contains_0 rfl rfl ?_
  refine r_if_lt (tgt := 18) dX5_contains_1 (by decide) (fun c1 => ?_) (fun c1 => ?_)
  · refine n_const 0 dX5_contains_18 (by decide) ?_
    refine s_iret dX5_contains_19 rfl rfl ?_
    refine ⟨_, rfl, rfl, ?_⟩
    first
      | (have hp : 0 ≤ x ∧ x < nI (X (179 + m)) := ⟨i_nlt c1, i_nle c11⟩
         rw [decide_eq_true hp]; rfl)
      | (have hp : ¬ (0 ≤ x ∧ x < nI (X (179 + m))) := fun r => i_lt_le c1 r.1
         rw [decide_eq_false hp]; rfl)
      | (have hp : ¬ (0 ≤ x ∧ x < nI (X (179 + m))) := fun r => i_lt_le r.2 c11
         rw [decide_eq_false hp]; rfl)
  · refine r_iload_n dX5_contains_4 rfl rfl ?_
    refine r_aload_n dX5_contains_5 rfl rfl ?_
    refine s_getR dX5_contains_6 fX5_9 (layX5 hq) rfl ?_
    refine r_iload_n dX5_contains_9 rfl rfl ?_
    refine a_ld dX5_contains_10 (X5_sizes hq) (by omega) (by decide) (co_on hO (by omega)) ?_
    refine r_icmp_ge (tgt := 18) dX5_contains_11 (by decide) (fun c11 => ?_) (fun c11 => ?_)
    · refine n_const 0 dX5_contains_18 (by decide) ?_
      refine s_iret dX5_contains_19 rfl rfl ?_
      refine ⟨_, rfl, rfl, ?_⟩
      first
        | (have hp : 0 ≤ x ∧ x < nI (X (179 + m)) := ⟨i_nlt c1, i_nle c11⟩
           rw [decide_eq_true hp]; rfl)
        | (have hp : ¬ (0 ≤ x ∧ x < nI (X (179 + m))) := fun r => i_lt_le c1 r.1
           rw [decide_eq_false hp]; rfl)
        | (have hp : ¬ (0 ≤ x ∧ x < nI (X (179 + m))) := fun r => i_lt_le r.2 c11
           rw [decide_eq_false hp]; rfl)
    · refine n_const 1 dX5_contains_14 (by decide) ?_
      refine r_goto (tgt := 19) dX5_contains_15 (by decide) ?_
      refine s_iret dX5_contains_19 rfl rfl ?_
      refine ⟨_, rfl, rfl, ?_⟩
      first
        | (have hp : 0 ≤ x ∧ x < nI (X (179 + m)) := ⟨i_nlt c1, i_nle c11⟩
           rw [decide_eq_true hp]; rfl)
        | (have hp : ¬ (0 ≤ x ∧ x < nI (X (179 + m))) := fun r => i_lt_le c1 r.1
           rw [decide_eq_false hp]; rfl)
        | (have hp : ¬ (0 ≤ x ∧ x < nI (X (179 + m))) := fun r => i_lt_le r.2 c11
           rw [decide_eq_false hp]; rfl)
set_option maxRecDepth 20000 in
set_option maxHeartbeats 1000000 in
theorem c_positionOf {G : q_G} {s : s_T} {X : x_T} {q m k p0 : Nat} (hq : isX5 q) (hO : c_O X s q) (hw : x_wf X) (hm : m < 4) (hp0 : p0 < X (179 + m)) (he : X (183 + 5 * m + p0) = k) (hk : k < X 1) : s_W G mX5_positionOf 1 0 0 (c_I (fun y9 s1 => s1 = s ∧ y9 = nI p0)) 0 (q_ent mX5_positionOf [.ref q, .int (nI m), .int (nI k)]) [] s := by
  show s_W G mX5_positionOf 1 0 0 _ 0 [some (.ref q), some (.int (nI m)), some (.int (nI k)), none] [] s
  have hz := x_sz hw
  have hn := x_mn hw hm
  have loop : ∀ f p, p ≤ p0 → p0 < p + f → s_W G mX5_positionOf 1 0 0 (c_I (fun x s1 => s1 = s ∧ x = nI p0)) 2 [some (.ref q), some (.int (nI m)), some (.int (nI k)), some (.int (nI p))] [] s := by
    intro f
    induction f with
    | zero => intro p h1 h2; exact absurd h2 (by omega)
    | succ f ih =>
      intro p h1 h2
      have hod := x_od hw hm (p := p) (by omega)
      refine r_iload_n dX5_positionOf_2 rfl rfl ?_
      refine r_aload_n dX5_positionOf_3 rfl rfl ?_
      refine s_getR dX5_positionOf_4 fX5_9 (layX5 hq) rfl ?_
      refine r_iload_n dX5_positionOf_7 rfl rfl ?_
      refine a_ld dX5_positionOf_8 (X5_sizes hq) (by omega) (by decide) (co_on hO (by omega)) ?_
      refine n_cge (tgt := 32) dX5_positionOf_9 (by decide) (by omega) (by omega) (fun c9 => ?_) (fun c9 => ?_)
      · exact absurd c9 (by omega)
      · refine r_aload_n dX5_positionOf_12 rfl rfl ?_
        refine s_getR dX5_positionOf_13 fX5_17 (layX5 hq) rfl ?_
        refine r_iload_n dX5_positionOf_16 rfl rfl ?_
        refine a_ald dX5_positionOf_17 (X5_rows hq) (by omega) (by decide) ?_
        refine r_iload_n dX5_positionOf_18 rfl rfl ?_
        refine a_ld dX5_positionOf_19 (X5_rows_row hq (by omega)) (by omega) (by decide) (co_ord hO (by omega) (by omega)) ?_
        refine r_iload_n dX5_positionOf_20 rfl rfl ?_
        refine n_cne (tgt := 26) dX5_positionOf_21 (by decide) (by omega) (by omega) (fun c21 => ?_) (fun c21 => ?_)
        · have hne : p ≠ p0 := fun r => c21 (by rw [r]; exact he)
          refine n_inc dX5_positionOf_26 rfl (n_i1 _) (by decide) rfl ?_
          refine r_goto (tgt := 2) dX5_positionOf_29 (by decide) ?_
          exact ih (p + 1) (by omega) (by omega)
        · refine r_iload_n dX5_positionOf_24 rfl rfl ?_
          refine s_iret dX5_positionOf_25 rfl rfl ?_
          have e1 : p = p0 := x_od1 hw hm (by omega) hp0 (by omega)
          subst e1
          exact ⟨_, rfl, rfl, rfl⟩
  refine n_const 0 dX5_positionOf_0 (by decide) ?_
  refine r_istore_n dX5_positionOf_1 rfl (by decide) rfl ?_
  exact loop (p0 + 1) 0 (by omega) (by omega)
set_option maxRecDepth 20000 in
set_option maxHeartbeats 1000000 in
theorem c_readyTime {G : q_G} {s : s_T} {X : x_T} {o k ke a b : Nat} {bf : Option Nat} (ho : isX7 o) (hC : c_R X s o) (hw : x_wf X) (hk : k < X 1) (hl : q_lay ke = .inl (0, 20, none)) (ha : 0 < X (122 + k) → s ke (X (22 + 4 * X (42 + k) + (X (122 + k) - 1))) = nI a) (hb : ∀ q, bf = some q → q < X 1 ∧ s ke q = nI b) (ha2 : a < 1000000) (hb2 : b < 1000000) : s_W G mX7_readyTime 1 0 0 (c_I (fun y9 s1 => s1 = s ∧ y9 = nI (max (if X (122 + k) = 0 then X (2 + X (42 + k)) else a) (match bf with | none => 0 | some q => b + X (142 + 3 * X (102 + q) + X (102 + k)))))) 0 (q_ent mX7_readyTime [.ref o, .int (nI k), .int (oI bf), .ref ke]) [] s := by
  show s_W G mX7_readyTime 1 0 0 _ 0 [some (.ref o), some (.int (nI k)), some (.int (oI bf)), some (.ref ke), none, none, none, none] [] s
  have hk2 := x_op hw hk
  have hj2 := x_jb hw hk2.2.2.1
  have hz := x_sz hw
  cases bf with
  | none =>
    refine r_aload_n dX7_readyTime_0 rfl rfl ?_
    refine s_getR dX7_readyTime_1 fX7_23 (layX7 ho) rfl ?_
    refine r_iload_n dX7_readyTime_4 rfl rfl ?_
    refine a_ld dX7_readyTime_5 (X7_jobOf ho) (by omega) (by decide) (cl_job hC (by omega)) ?_
    refine r_istore dX7_readyTime_6 (by decide) rfl ?_
    refine r_aload_n dX7_readyTime_8 rfl rfl ?_
    refine s_getR dX7_readyTime_9 fX7_35 (layX7 ho) rfl ?_
    refine r_iload_n dX7_readyTime_12 rfl rfl ?_
    refine a_ld dX7_readyTime_13 (X7_stepOf ho) (by omega) (by decide) (cl_st hC (by omega)) ?_
    refine r_istore dX7_readyTime_14 (by decide) rfl ?_
    refine r_iload dX7_readyTime_16 rfl ?_
    refine n_ifle (tgt := 38) dX7_readyTime_18 (by decide) (by omega) (fun c18 => ?_) (fun c18 => ?_)
    · refine r_aload_n dX7_readyTime_38 rfl rfl ?_
      refine s_getR dX7_readyTime_39 fX7_11 (layX7 ho) rfl ?_
      refine r_iload dX7_readyTime_42 rfl ?_
      refine a_ald dX7_readyTime_44 (X7_jobData ho) (by omega) (by decide) ?_
      refine n_const 0 dX7_readyTime_45 (by decide) ?_
      refine a_ld dX7_readyTime_46 (X7_jobData_row ho (by omega)) (by omega) (by decide) (cl_rel hC (by omega)) ?_
      refine r_istore dX7_readyTime_47 (by decide) rfl ?_
      refine r_iload_n dX7_readyTime_49 rfl rfl ?_
      refine r_iconst (v := -1) dX7_readyTime_50 (by decide) ?_
      refine r_icmp_ne (tgt := 58) dX7_readyTime_51 (by decide) (fun c51 => ?_) (fun c51 => ?_)
      · exact absurd rfl c51
      · refine n_const 0 dX7_readyTime_54 (by decide) ?_
        refine r_goto (tgt := 80) dX7_readyTime_55 (by decide) ?_
        refine r_istore dX7_readyTime_80 (by decide) rfl ?_
        refine r_iload dX7_readyTime_82 rfl ?_
        refine r_iload dX7_readyTime_84 rfl ?_
        refine n_cle (tgt := 94) dX7_readyTime_86 (by decide) (by omega) (by omega) (fun c86 => ?_) (fun c86 => ?_)
        · refine r_iload dX7_readyTime_94 rfl ?_
          refine s_iret dX7_readyTime_96 rfl rfl ?_
          refine ⟨_, rfl, rfl, ?_⟩
          congr 1
          first
            | (rw [if_pos (by omega)]; dsimp only; omega)
            | (rw [if_neg (by omega)]; dsimp only; omega)
        · refine r_iload dX7_readyTime_89 rfl ?_
          refine r_goto (tgt := 96) dX7_readyTime_91 (by decide) ?_
          refine s_iret dX7_readyTime_96 rfl rfl ?_
          refine ⟨_, rfl, rfl, ?_⟩
          congr 1
          first
            | (rw [if_pos (by omega)]; dsimp only; omega)
            | (rw [if_neg (by omega)]; dsimp only; omega)
    · have hr1 := x_rt hw hk2.2.2.1 (i := X (122 + k) - 1) (by omega)
      refine r_aload_n dX7_readyTime_21 rfl rfl ?_
      refine r_aload_n dX7_readyTime_22 rfl rfl ?_
      refine s_getR dX7_readyTime_23 fX7_20 (layX7 ho) rfl ?_
      refine r_iload dX7_readyTime_26 rfl ?_
      refine a_ald dX7_readyTime_28 (X7_routes ho) (by omega) (by decide) ?_
      refine r_iload dX7_readyTime_29 rfl ?_
      refine n_const 1 dX7_readyTime_31 (by decide) ?_
      refine n_sub dX7_readyTime_32 (by omega) ?_
      refine a_ld dX7_readyTime_33 (X7_routes_row ho (by omega)) (by omega) (by decide) (cl_rt hC (by omega) (by omega)) ?_
      refine a_ld dX7_readyTime_34 hl (by omega) (by decide) (ha (by omega)) ?_
      refine r_goto (tgt := 47) dX7_readyTime_35 (by decide) ?_
      refine r_istore dX7_readyTime_47 (by decide) rfl ?_
      refine r_iload_n dX7_readyTime_49 rfl rfl ?_
      refine r_iconst (v := -1) dX7_readyTime_50 (by decide) ?_
      refine r_icmp_ne (tgt := 58) dX7_readyTime_51 (by decide) (fun c51 => ?_) (fun c51 => ?_)
      · exact absurd rfl c51
      · refine n_const 0 dX7_readyTime_54 (by decide) ?_
        refine r_goto (tgt := 80) dX7_readyTime_55 (by decide) ?_
        refine r_istore dX7_readyTime_80 (by decide) rfl ?_
        refine r_iload dX7_readyTime_82 rfl ?_
        refine r_iload dX7_readyTime_84 rfl ?_
        refine n_cle (tgt := 94) dX7_readyTime_86 (by decide) (by omega) (by omega) (fun c86 => ?_) (fun c86 => ?_)
        · refine r_iload dX7_readyTime_94 rfl ?_
          refine s_iret dX7_readyTime_96 rfl rfl ?_
          refine ⟨_, rfl, rfl, ?_⟩
          congr 1
          first
            | (rw [if_pos (by omega)]; dsimp only; omega)
            | (rw [if_neg (by omega)]; dsimp only; omega)
        · refine r_iload dX7_readyTime_89 rfl ?_
          refine r_goto (tgt := 96) dX7_readyTime_91 (by decide) ?_
          refine s_iret dX7_readyTime_96 rfl rfl ?_
          refine ⟨_, rfl, rfl, ?_⟩
          congr 1
          first
            | (rw [if_pos (by omega)]; dsimp only; omega)
            | (rw [if_neg (by omega)]; dsimp only; omega)
  | some q =>
    obtain ⟨hq1, hb1⟩ := (hb q rfl)
    have hb1 := hb q rfl
    have hq2 := x_op hw hq1
    have hs2 := x_su hw (f := X (102 + q)) (g := X (102 + k)) (by omega) (by omega)
    refine r_aload_n dX7_readyTime_0 rfl rfl ?_
    refine s_getR dX7_readyTime_1 fX7_23 (layX7 ho) rfl ?_
    refine r_iload_n dX7_readyTime_4 rfl rfl ?_
    refine a_ld dX7_readyTime_5 (X7_jobOf ho) (by omega) (by decide) (cl_job hC (by omega)) ?_
    refine r_istore dX7_readyTime_6 (by decide) rfl ?_
    refine r_aload_n dX7_readyTime_8 rfl rfl ?_
    refine s_getR dX7_readyTime_9 fX7_35 (layX7 ho) rfl ?_
    refine r_iload_n dX7_readyTime_12 rfl rfl ?_
    refine a_ld dX7_readyTime_13 (X7_stepOf ho) (by omega) (by decide) (cl_st hC (by omega)) ?_
    refine r_istore dX7_readyTime_14 (by decide) rfl ?_
    refine r_iload dX7_readyTime_16 rfl ?_
    refine n_ifle (tgt := 38) dX7_readyTime_18 (by decide) (by omega) (fun c18 => ?_) (fun c18 => ?_)
    · refine r_aload_n dX7_readyTime_38 rfl rfl ?_
      refine s_getR dX7_readyTime_39 fX7_11 (layX7 ho) rfl ?_
      refine r_iload dX7_readyTime_42 rfl ?_
      refine a_ald dX7_readyTime_44 (X7_jobData ho) (by omega) (by decide) ?_
      refine n_const 0 dX7_readyTime_45 (by decide) ?_
      refine a_ld dX7_readyTime_46 (X7_jobData_row ho (by omega)) (by omega) (by decide) (cl_rel hC (by omega)) ?_
      refine r_istore dX7_readyTime_47 (by decide) rfl ?_
      refine r_iload_n dX7_readyTime_49 rfl rfl ?_
      refine r_iconst (v := -1) dX7_readyTime_50 (by decide) ?_
      refine r_icmp_ne (tgt := 58) dX7_readyTime_51 (by decide) (fun c51 => ?_) (fun c51 => ?_)
      · refine r_aload_n dX7_readyTime_58 rfl rfl ?_
        refine r_iload_n dX7_readyTime_59 rfl rfl ?_
        refine a_ld dX7_readyTime_60 hl (by omega) (by decide) hb1.2 ?_
        refine r_aload_n dX7_readyTime_61 rfl rfl ?_
        refine s_getR dX7_readyTime_62 fX7_38 (layX7 ho) rfl ?_
        refine r_aload_n dX7_readyTime_65 rfl rfl ?_
        refine s_getR dX7_readyTime_66 fX7_32 (layX7 ho) rfl ?_
        refine r_iload_n dX7_readyTime_69 rfl rfl ?_
        refine a_ld dX7_readyTime_70 (X7_families ho) (by omega) (by decide) (cl_fa hC (by omega)) ?_
        refine a_ald dX7_readyTime_71 (X7_setups ho) (by omega) (by decide) ?_
        refine r_aload_n dX7_readyTime_72 rfl rfl ?_
        refine s_getR dX7_readyTime_73 fX7_32 (layX7 ho) rfl ?_
        refine r_iload_n dX7_readyTime_76 rfl rfl ?_
        refine a_ld dX7_readyTime_77 (X7_families ho) (by omega) (by decide) (cl_fa hC (by omega)) ?_
        refine a_ld dX7_readyTime_78 (X7_setups_row ho (by omega)) (by omega) (by decide) (cl_su hC (by omega) (by omega)) ?_
        refine n_add dX7_readyTime_79 ?_
        refine r_istore dX7_readyTime_80 (by decide) rfl ?_
        refine r_iload dX7_readyTime_82 rfl ?_
        refine r_iload dX7_readyTime_84 rfl ?_
        refine n_cle (tgt := 94) dX7_readyTime_86 (by decide) (by omega) (by omega) (fun c86 => ?_) (fun c86 => ?_)
        · refine r_iload dX7_readyTime_94 rfl ?_
          refine s_iret dX7_readyTime_96 rfl rfl ?_
          refine ⟨_, rfl, rfl, ?_⟩
          congr 1
          first
            | (rw [if_pos (by omega)]; dsimp only; omega)
            | (rw [if_neg (by omega)]; dsimp only; omega)
        · refine r_iload dX7_readyTime_89 rfl ?_
          refine r_goto (tgt := 96) dX7_readyTime_91 (by decide) ?_
          refine s_iret dX7_readyTime_96 rfl rfl ?_
          refine ⟨_, rfl, rfl, ?_⟩
          congr 1
          first
            | (rw [if_pos (by omega)]; dsimp only; omega)
            | (rw [if_neg (by omega)]; dsimp only; omega)
      · exact absurd c51 (nI_m1 (by omega))
    · have hr1 := x_rt hw hk2.2.2.1 (i := X (122 + k) - 1) (by omega)
      refine r_aload_n dX7_readyTime_21 rfl rfl ?_
      refine r_aload_n dX7_readyTime_22 rfl rfl ?_
      refine s_getR dX7_readyTime_23 fX7_20 (layX7 ho) rfl ?_
      refine r_iload dX7_readyTime_26 rfl ?_
      refine a_ald dX7_readyTime_28 (X7_routes ho) (by omega) (by decide) ?_
      refine r_iload dX7_readyTime_29 rfl ?_
      refine n_const 1 dX7_readyTime_31 (by decide) ?_
      refine n_sub dX7_readyTime_32 (by omega) ?_
      refine a_ld dX7_readyTime_33 (X7_routes_row ho (by omega)) (by omega) (by decide) (cl_rt hC (by omega) (by omega)) ?_
      refine a_ld dX7_readyTime_34 hl (by omega) (by decide) (ha (by omega)) ?_
      refine r_goto (tgt := 47) dX7_readyTime_35 (by decide) ?_
      refine r_istore dX7_readyTime_47 (by decide) rfl ?_
      refine r_iload_n dX7_readyTime_49 rfl rfl ?_
      refine r_iconst (v := -1) dX7_readyTime_50 (by decide) ?_
      refine r_icmp_ne (tgt := 58) dX7_readyTime_51 (by decide) (fun c51 => ?_) (fun c51 => ?_)
      · refine r_aload_n dX7_readyTime_58 rfl rfl ?_
        refine r_iload_n dX7_readyTime_59 rfl rfl ?_
        refine a_ld dX7_readyTime_60 hl (by omega) (by decide) hb1.2 ?_
        refine r_aload_n dX7_readyTime_61 rfl rfl ?_
        refine s_getR dX7_readyTime_62 fX7_38 (layX7 ho) rfl ?_
        refine r_aload_n dX7_readyTime_65 rfl rfl ?_
        refine s_getR dX7_readyTime_66 fX7_32 (layX7 ho) rfl ?_
        refine r_iload_n dX7_readyTime_69 rfl rfl ?_
        refine a_ld dX7_readyTime_70 (X7_families ho) (by omega) (by decide) (cl_fa hC (by omega)) ?_
        refine a_ald dX7_readyTime_71 (X7_setups ho) (by omega) (by decide) ?_
        refine r_aload_n dX7_readyTime_72 rfl rfl ?_
        refine s_getR dX7_readyTime_73 fX7_32 (layX7 ho) rfl ?_
        refine r_iload_n dX7_readyTime_76 rfl rfl ?_
        refine a_ld dX7_readyTime_77 (X7_families ho) (by omega) (by decide) (cl_fa hC (by omega)) ?_
        refine a_ld dX7_readyTime_78 (X7_setups_row ho (by omega)) (by omega) (by decide) (cl_su hC (by omega) (by omega)) ?_
        refine n_add dX7_readyTime_79 ?_
        refine r_istore dX7_readyTime_80 (by decide) rfl ?_
        refine r_iload dX7_readyTime_82 rfl ?_
        refine r_iload dX7_readyTime_84 rfl ?_
        refine n_cle (tgt := 94) dX7_readyTime_86 (by decide) (by omega) (by omega) (fun c86 => ?_) (fun c86 => ?_)
        · refine r_iload dX7_readyTime_94 rfl ?_
          refine s_iret dX7_readyTime_96 rfl rfl ?_
          refine ⟨_, rfl, rfl, ?_⟩
          congr 1
          first
            | (rw [if_pos (by omega)]; dsimp only; omega)
            | (rw [if_neg (by omega)]; dsimp only; omega)
        · refine r_iload dX7_readyTime_89 rfl ?_
          refine r_goto (tgt := 96) dX7_readyTime_91 (by decide) ?_
          refine s_iret dX7_readyTime_96 rfl rfl ?_
          refine ⟨_, rfl, rfl, ?_⟩
          congr 1
          first
            | (rw [if_pos (by omega)]; dsimp only; omega)
            | (rw [if_neg (by omega)]; dsimp only; omega)
      · exact absurd c51 (nI_m1 (by omega))
/-- a breakdown moves a start; a pass over all of them; as many passes as breakdowns -/
def x_bs (X : x_T) (m d i t : Nat) : Nat := if X (155 + 3 * m + i) < t + d ∧ t < X (155 + 3 * m + i) + X (167 + 3 * m + i) then X (155 + 3 * m + i) + X (167 + 3 * m + i) else t
def x_ps (X : x_T) (m d : Nat) : Nat → Nat → Nat → Nat
  | 0, _, t => t
  | n + 1, i, t => x_ps X m d n (i + 1) (x_bs X m d i t)
def x_rn (X : x_T) (m d b : Nat) : Nat → Nat → Nat
  | 0, t => t
  | n + 1, t => x_rn X m d b n (x_ps X m d b 0 t)
def x_fr (X : x_T) (m d t : Nat) : Nat := x_rn X m d (X (151 + m)) (X (151 + m)) t
set_option maxRecDepth 20000 in
set_option maxHeartbeats 1000000 in
theorem c_startFrom {G : q_G} {s : s_T} {X : x_T} {o k t0 : Nat} (ho : isX7 o) (hC : c_R X s o) (hw : x_wf X) (hk : k < X 1) (ht0 : t0 ≤ 1000000) : s_W G mX7_startFrom 1 0 0 (c_I (fun x s1 => s1 = s ∧ x = nI (x_fr X (X (62 + k)) (X (82 + k)) t0))) 0 (q_ent mX7_startFrom [.ref o, .int (nI k), .int (nI t0)]) [] s := by
  show s_W G mX7_startFrom 1 0 0 _ 0 [some (.ref o), some (.int (nI k)), some (.int (nI t0)), none, none, none, none, none, none] [] s
  have hk2 := x_op hw hk
  have hz := x_sz hw
  have hn := x_mn hw hk2.2.2.2.2.2.2.1
  have outer : ∀ f r t (L7 L8 : Option Value), r ≤ X (151 + X (62 + k)) → X (151 + X (62 + k)) < r + f → t ≤ 1000000 → x_rn X (X (62 + k)) (X (82 + k)) (X (151 + X (62 + k))) (X (151 + X (62 + k)) - r) t = x_fr X (X (62 + k)) (X (82 + k)) t0 → s_W G mX7_startFrom 1 0 0 (c_I (fun x s1 => s1 = s ∧ x = nI (x_fr X (X (62 + k)) (X (82 + k)) t0))) 21 [some (.ref o), some (.int (nI k)), some (.int (nI t0)), some (.int (nI (X (62 + k)))), some (.int (nI (X (151 + X (62 + k))))), some (.int (nI t)), some (.int (nI r)), L7, L8] [] s := by
    intro f
    induction f with
    | zero => intro r t L7 L8 h1 h2; exact absurd h2 (by omega)
    | succ f ih =>
      intro r t L7 L8 h1 h2 ht hR
      refine r_iload dX7_startFrom_21 rfl ?_
      refine r_iload dX7_startFrom_23 rfl ?_
      refine n_cge (tgt := 113) dX7_startFrom_25 (by decide) (by omega) (by omega) (fun c25 => ?_) (fun c25 => ?_)
      · refine r_iload dX7_startFrom_113 rfl ?_
        refine s_iret dX7_startFrom_115 rfl rfl ?_
        have e : r = X (151 + X (62 + k)) := by omega
        refine ⟨_, rfl, rfl, ?_⟩
        rw [← hR, e, Nat.sub_self]
        rfl
      · refine n_const 0 dX7_startFrom_28 (by decide) ?_
        refine r_istore dX7_startFrom_29 (by decide) rfl ?_
        have e0 : X (151 + X (62 + k)) - r = (X (151 + X (62 + k)) - (r + 1)) + 1 := by omega
        rw [e0] at hR
        have hR : x_rn X (X (62 + k)) (X (82 + k)) (X (151 + X (62 + k))) (X (151 + X (62 + k)) - (r + 1)) (x_ps X (X (62 + k)) (X (82 + k)) (X (151 + X (62 + k)) - 0) 0 t) = x_fr X (X (62 + k)) (X (82 + k)) t0 := hR
        have inner : ∀ f i t (L8 : Option Value), i ≤ X (151 + X (62 + k)) → X (151 + X (62 + k)) < i + f → t ≤ 1000000 → x_rn X (X (62 + k)) (X (82 + k)) (X (151 + X (62 + k))) (X (151 + X (62 + k)) - (r + 1)) (x_ps X (X (62 + k)) (X (82 + k)) (X (151 + X (62 + k)) - i) i t) = x_fr X (X (62 + k)) (X (82 + k)) t0 → s_W G mX7_startFrom 1 0 0 (c_I (fun x s1 => s1 = s ∧ x = nI (x_fr X (X (62 + k)) (X (82 + k)) t0))) 31 [some (.ref o), some (.int (nI k)), some (.int (nI t0)), some (.int (nI (X (62 + k)))), some (.int (nI (X (151 + X (62 + k))))), some (.int (nI t)), some (.int (nI r)), some (.int (nI i)), L8] [] s := by
          intro f
          induction f with
          | zero => intro i t L8 h1 h2; exact absurd h2 (by omega)
          | succ f ih2 =>
            intro i t L8 h3 h4 ht hR
            refine r_iload dX7_startFrom_31 rfl ?_
            refine r_iload dX7_startFrom_33 rfl ?_
            refine n_cge (tgt := 107) dX7_startFrom_35 (by decide) (by omega) (by omega) (fun c35 => ?_) (fun c35 => ?_)
            · have e : i = X (151 + X (62 + k)) := by omega
              subst e
              refine n_inc dX7_startFrom_107 rfl (n_i1 _) (by decide) rfl ?_
              refine r_goto (tgt := 21) dX7_startFrom_110 (by decide) ?_
              refine ih (r + 1) t _ _ (by omega) (by omega) ht ?_
              rw [← hR, Nat.sub_self]
              rfl
            · have hbr := x_br hw hk2.2.2.2.2.2.2.1 c35
              refine r_iload dX7_startFrom_38 rfl ?_
              refine r_aload_n dX7_startFrom_40 rfl rfl ?_
              refine s_getR dX7_startFrom_41 fX7_47 (layX7 ho) rfl ?_
              refine r_iload_n dX7_startFrom_44 rfl rfl ?_
              refine a_ald dX7_startFrom_45 (X7_breakBehind ho) (by omega) (by decide) ?_
              refine r_iload dX7_startFrom_46 rfl ?_
              refine a_ld dX7_startFrom_48 (X7_breakBehind_row ho (by omega)) (by omega) (by decide) (cl_bb hC (by omega) (by omega)) ?_
              refine n_cge (tgt := 77) dX7_startFrom_49 (by decide) (by omega) (by omega) (fun c49 => ?_) (fun c49 => ?_)
              · refine n_const 0 dX7_startFrom_77 (by decide) ?_
                refine r_istore dX7_startFrom_78 (by decide) rfl ?_
                refine r_iload dX7_startFrom_80 rfl ?_
                refine n_ifeq (tgt := 97) dX7_startFrom_82 (by decide) (by omega) (fun c82 => ?_) (fun c82 => ?_)
                · refine r_iload dX7_startFrom_97 rfl ?_
                  refine r_istore dX7_startFrom_99 (by decide) rfl ?_
                  refine n_inc dX7_startFrom_101 rfl (n_i1 _) (by decide) rfl ?_
                  refine r_goto (tgt := 31) dX7_startFrom_104 (by decide) ?_
                  refine ih2 (i + 1) _ _ (by omega) (by omega) ?_ ?_
                  · omega
                  · rw [← hR]
                    have e : X (151 + X (62 + k)) - i = (X (151 + X (62 + k)) - (i + 1)) + 1 := by omega
                    rw [e]
                    show _ = x_rn X _ _ _ _ (x_ps X _ _ _ (i + 1) (x_bs X _ _ i t))
                    unfold x_bs
                    first
                      | rw [if_pos (by omega)]
                      | rw [if_neg (by omega)]
                · exact absurd c82 (by decide)
              · refine r_aload_n dX7_startFrom_52 rfl rfl ?_
                refine s_getR dX7_startFrom_53 fX7_44 (layX7 ho) rfl ?_
                refine r_iload_n dX7_startFrom_56 rfl rfl ?_
                refine a_ald dX7_startFrom_57 (X7_breakFirst ho) (by omega) (by decide) ?_
                refine r_iload dX7_startFrom_58 rfl ?_
                refine a_ld dX7_startFrom_60 (X7_breakFirst_row ho (by omega)) (by omega) (by decide) (cl_bf hC (by omega) (by omega)) ?_
                refine r_iload dX7_startFrom_61 rfl ?_
                refine r_aload_n dX7_startFrom_63 rfl rfl ?_
                refine s_getR dX7_startFrom_64 fX7_29 (layX7 ho) rfl ?_
                refine r_iload_n dX7_startFrom_67 rfl rfl ?_
                refine a_ld dX7_startFrom_68 (X7_durations ho) (by omega) (by decide) (cl_du hC (by omega)) ?_
                refine n_add dX7_startFrom_69 ?_
                refine n_cge (tgt := 77) dX7_startFrom_70 (by decide) (by omega) (by omega) (fun c70 => ?_) (fun c70 => ?_)
                · refine n_const 0 dX7_startFrom_77 (by decide) ?_
                  refine r_istore dX7_startFrom_78 (by decide) rfl ?_
                  refine r_iload dX7_startFrom_80 rfl ?_
                  refine n_ifeq (tgt := 97) dX7_startFrom_82 (by decide) (by omega) (fun c82 => ?_) (fun c82 => ?_)
                  · refine r_iload dX7_startFrom_97 rfl ?_
                    refine r_istore dX7_startFrom_99 (by decide) rfl ?_
                    refine n_inc dX7_startFrom_101 rfl (n_i1 _) (by decide) rfl ?_
                    refine r_goto (tgt := 31) dX7_startFrom_104 (by decide) ?_
                    refine ih2 (i + 1) _ _ (by omega) (by omega) ?_ ?_
                    · omega
                    · rw [← hR]
                      have e : X (151 + X (62 + k)) - i = (X (151 + X (62 + k)) - (i + 1)) + 1 := by omega
                      rw [e]
                      show _ = x_rn X _ _ _ _ (x_ps X _ _ _ (i + 1) (x_bs X _ _ i t))
                      unfold x_bs
                      first
                        | rw [if_pos (by omega)]
                        | rw [if_neg (by omega)]
                  · exact absurd c82 (by decide)
                · refine n_const 1 dX7_startFrom_73 (by decide) ?_
                  refine r_goto (tgt := 78) dX7_startFrom_74 (by decide) ?_
                  refine r_istore dX7_startFrom_78 (by decide) rfl ?_
                  refine r_iload dX7_startFrom_80 rfl ?_
                  refine n_ifeq (tgt := 97) dX7_startFrom_82 (by decide) (by omega) (fun c82 => ?_) (fun c82 => ?_)
                  · exact absurd c82 (by decide)
                  · refine r_aload_n dX7_startFrom_85 rfl rfl ?_
                    refine s_getR dX7_startFrom_86 fX7_47 (layX7 ho) rfl ?_
                    refine r_iload_n dX7_startFrom_89 rfl rfl ?_
                    refine a_ald dX7_startFrom_90 (X7_breakBehind ho) (by omega) (by decide) ?_
                    refine r_iload dX7_startFrom_91 rfl ?_
                    refine a_ld dX7_startFrom_93 (X7_breakBehind_row ho (by omega)) (by omega) (by decide) (cl_bb hC (by omega) (by omega)) ?_
                    refine r_goto (tgt := 99) dX7_startFrom_94 (by decide) ?_
                    refine r_istore dX7_startFrom_99 (by decide) rfl ?_
                    refine n_inc dX7_startFrom_101 rfl (n_i1 _) (by decide) rfl ?_
                    refine r_goto (tgt := 31) dX7_startFrom_104 (by decide) ?_
                    refine ih2 (i + 1) _ _ (by omega) (by omega) ?_ ?_
                    · omega
                    · rw [← hR]
                      have e : X (151 + X (62 + k)) - i = (X (151 + X (62 + k)) - (i + 1)) + 1 := by omega
                      rw [e]
                      show _ = x_rn X _ _ _ _ (x_ps X _ _ _ (i + 1) (x_bs X _ _ i t))
                      unfold x_bs
                      first
                        | rw [if_pos (by omega)]
                        | rw [if_neg (by omega)]
        exact inner (X (151 + X (62 + k)) + 1) 0 t _ (by omega) (by omega) ht hR
  refine r_aload_n dX7_startFrom_0 rfl rfl ?_
  refine s_getR dX7_startFrom_1 fX7_26 (layX7 ho) rfl ?_
  refine r_iload_n dX7_startFrom_4 rfl rfl ?_
  refine a_ld dX7_startFrom_5 (X7_machineOf ho) (by omega) (by decide) (cl_mc hC (by omega)) ?_
  refine r_istore_n dX7_startFrom_6 rfl (by decide) rfl ?_
  refine r_aload_n dX7_startFrom_7 rfl rfl ?_
  refine s_getR dX7_startFrom_8 fX7_41 (layX7 ho) rfl ?_
  refine r_iload_n dX7_startFrom_11 rfl rfl ?_
  refine a_ld dX7_startFrom_12 (X7_breakdowns ho) (by omega) (by decide) (cl_bn hC (by omega)) ?_
  refine r_istore dX7_startFrom_13 (by decide) rfl ?_
  refine r_iload_n dX7_startFrom_15 rfl rfl ?_
  refine r_istore dX7_startFrom_16 (by decide) rfl ?_
  refine n_const 0 dX7_startFrom_18 (by decide) ?_
  refine r_istore dX7_startFrom_19 (by decide) rfl ?_
  exact outer (X (151 + X (62 + k)) + 1) 0 t0 none none (by omega) (by omega) ht0 rfl
