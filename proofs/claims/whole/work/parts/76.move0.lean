/-! ===== move ===== -/
theorem n_abs_up {a b : Nat} (h : a ≤ b) (hb : b < 2 ^ 31) : (if 0 ≤ nI b - nI a then nI b - nI a else 0 - (nI b - nI a)) = nI (b - a) := by
  rw [pk_sub h, if_pos]
  rw [Int32.le_iff_toInt_le, nI_toInt (by omega), i_0]; omega
theorem n_abs_dn {a b : Nat} (h : b ≤ a) (ha : a < 2 ^ 31) : (if 0 ≤ nI b - nI a then nI b - nI a else 0 - (nI b - nI a)) = nI (a - b) := by
  by_cases e : a = b
  · subst e; rw [pk_sub (Nat.le_refl _), if_pos (by rw [Int32.le_iff_toInt_le, nI_toInt (by omega), i_0]; omega)]
  · rw [if_neg (fun q => by rw [Int32.le_iff_toInt_le, nI_sub (by omega) ha, i_0] at q; omega), ← pk_sub h]
    apply Int32.toBitVec_inj.mp
    simp
noncomputable def A_move (z : z_T) (k p : Int32) : a_T := if iLt k (z 0 1) = true then (if iLt p (z 0 (179 + z 0 (62 + iN k))) = true then A_ch z (x_mv (z 0) (z 0 (62 + iN k)) (x_po (z 0) (iN k)) (iN p)) else (2, 0, z)) else (1, 0, z)
theorem n_dec2 {n : Nat} (h : 0 < n) : nI n + (-1) = nI (n - 1) := n_dec h
set_option maxRecDepth 20000 in
set_option maxHeartbeats 1000000 in
theorem c_shift {G : q_G} {s : s_T} {q m a b : Nat} (hq : isX5 q) (hm : m < 4) (ha : a < 5) (hb : b < 5) : s_W G mX5_shift 1 0 0 (c_V (fun s1 => (∀ p, p < 5 → s1 (q + 3 + m) p = if p = b then s (q + 3 + m) a else if a ≤ p ∧ p < b then s (q + 3 + m) (p + 1) else if b < p ∧ p ≤ a then s (q + 3 + m) (p - 1) else s (q + 3 + m) p) ∧ s_fr (q + 3 + m) (q + 3 + m + 1) s s1)) 0 (q_ent mX5_shift [.ref q, .int (nI m), .int (nI a), .int (nI b)]) [] s := by
  show s_W G mX5_shift 1 0 0 _ 0 [some (.ref q), some (.int (nI m)), some (.int (nI a)), some (.int (nI b)), none, none, none, none, none, none] [] s
  have hq2 := o5_le hq
  by_cases hab : a < b
  · have lp : ∀ f e s1, (∀ p, p < 5 → s1 (q + 3 + m) p = if a ≤ p ∧ p < a + e then s (q + 3 + m) (p + 1) else s (q + 3 + m) p) → s_fr (q + 3 + m) (q + 3 + m + 1) s s1 → e ≤ b - a → b - a < e + f → s_W G mX5_shift 1 0 0 (c_V (fun s1 => (∀ p, p < 5 → s1 (q + 3 + m) p = if p = b then s (q + 3 + m) a else if a ≤ p ∧ p < b then s (q + 3 + m) (p + 1) else if b < p ∧ p ≤ a then s (q + 3 + m) (p - 1) else s (q + 3 + m) p) ∧ s_fr (q + 3 + m) (q + 3 + m + 1) s s1)) 40 [some (.ref q), some (.int (nI m)), some (.int (nI a)), some (.int (nI b)), some (.int (nI 1)), some (.int (nI (b - a))), some (.ref (q + 3 + m)), some (.int (s (q + 3 + m) a)), some (.int (nI (a + e))), some (.int (nI e))] [] s1 := by
      intro f
      induction f with
      | zero =>
        intro e s1 hA hf he hme
        exact absurd hme (by omega)
      | succ f ih =>
        intro e s1 hA hf he hme
        refine r_iload dX5_shift_40 rfl ?_
        refine r_iload dX5_shift_42 rfl ?_
        refine n_cge (tgt := 73) dX5_shift_44 (by decide) (by omega) (by omega) (fun c44 => ?_) (fun c44 => ?_)
        · refine r_aload dX5_shift_73 rfl ?_
          refine r_iload_n dX5_shift_75 rfl rfl ?_
          refine r_iload dX5_shift_76 rfl ?_
          refine a_st dX5_shift_78 (X5_rows_row hq hm) (by omega) (by decide) (fun s2 hs2 hf2 => ?_)
          refine s_vret dX5_shift_79 rfl ?_
          have e9 : e = b - a := by omega
          subst e9
          refine ⟨rfl, fun p hp => ?_, s_fr_tr hf hf2⟩
          rw [hs2]
          by_cases e9 : p = b
          · subst e9; rw [pk_us, if_pos rfl]
          · rw [pk_un e9, if_neg e9, hA p hp]
            by_cases e8 : a ≤ p ∧ p < b
            · rw [if_pos (by omega), if_pos e8]
            · rw [if_neg (by omega), if_neg e8, if_neg (by omega)]
        · refine r_aload dX5_shift_47 rfl ?_
          refine r_iload dX5_shift_49 rfl ?_
          refine r_aload dX5_shift_51 rfl ?_
          refine r_iload dX5_shift_53 rfl ?_
          refine r_iload dX5_shift_55 rfl ?_
          refine n_add dX5_shift_57 ?_
          refine a_ld dX5_shift_58 (X5_rows_row hq hm) (by omega) (by decide) rfl ?_
          refine a_st dX5_shift_59 (X5_rows_row hq hm) (by omega) (by decide) (fun s2 hs2 hf2 => ?_)
          refine r_iload dX5_shift_60 rfl ?_
          refine r_iload dX5_shift_62 rfl ?_
          refine n_add dX5_shift_64 ?_
          refine r_istore dX5_shift_65 (by decide) rfl ?_
          refine n_inc dX5_shift_67 rfl (n_i1 _) (by decide) rfl ?_
          refine r_goto (tgt := 40) dX5_shift_70 (by decide) ?_
          refine ih (e + 1) s2 (fun p hp => ?_) (s_fr_tr hf hf2) (by omega) (by omega)
          rw [hs2]
          by_cases e9 : p = a + e
          · subst e9
            rw [pk_us, hA _ (by omega), if_neg (by omega), if_pos (by omega)]
          · rw [pk_un e9, hA p hp]
            by_cases e8 : a ≤ p ∧ p < a + e
            · rw [if_pos e8, if_pos (by omega)]
            · rw [if_neg e8, if_neg (by omega)]
    refine r_iload_n dX5_shift_0 rfl rfl ?_
    refine r_iload_n dX5_shift_1 rfl rfl ?_
    refine n_cge (tgt := 9) dX5_shift_2 (by decide) (by omega) (by omega) (fun c2 => ?_) (fun c2 => ?_)
    · exact absurd c2 (by omega)
    · refine n_const 1 dX5_shift_5 (by decide) ?_
      refine r_goto (tgt := 10) dX5_shift_6 (by decide) ?_
      refine r_istore dX5_shift_10 (by decide) rfl ?_
      refine r_iload_n dX5_shift_12 rfl rfl ?_
      refine r_iload_n dX5_shift_13 rfl rfl ?_
      refine r_isub dX5_shift_14 ?_
      refine r_mabs dX5_shift_15 kwM_X5_abs kwM_static_abs kwM_ini kwM_code_abs (by decide) (Nat.le_of_ble_eq_true rfl) ?_
      rw [n_abs_up (by omega) (by omega)]
      refine r_istore dX5_shift_18 (by decide) rfl ?_
      refine r_aload_n dX5_shift_20 rfl rfl ?_
      refine s_getR dX5_shift_21 fX5_17 (layX5 hq) rfl ?_
      refine r_iload_n dX5_shift_24 rfl rfl ?_
      refine a_ald dX5_shift_25 (X5_rows hq) (by omega) (by decide) ?_
      refine r_astore dX5_shift_26 (by decide) rfl ?_
      refine r_aload dX5_shift_28 rfl ?_
      refine r_iload_n dX5_shift_30 rfl rfl ?_
      refine a_ld dX5_shift_31 (X5_rows_row hq (by omega)) (by omega) (by decide) rfl ?_
      refine r_istore dX5_shift_32 (by decide) rfl ?_
      refine r_iload_n dX5_shift_34 rfl rfl ?_
      refine r_istore dX5_shift_35 (by decide) rfl ?_
      refine n_const 0 dX5_shift_37 (by decide) ?_
      refine r_istore dX5_shift_38 (by decide) rfl ?_
      exact lp (b - a + 1) 0 s (fun p hp => by rw [if_neg (by omega)]) s_fr_rf (by omega) (by omega)
  · have lp : ∀ f e s1, (∀ p, p < 5 → s1 (q + 3 + m) p = if a - e < p ∧ p ≤ a then s (q + 3 + m) (p - 1) else s (q + 3 + m) p) → s_fr (q + 3 + m) (q + 3 + m + 1) s s1 → e ≤ a - b → a - b < e + f → s_W G mX5_shift 1 0 0 (c_V (fun s1 => (∀ p, p < 5 → s1 (q + 3 + m) p = if p = b then s (q + 3 + m) a else if a ≤ p ∧ p < b then s (q + 3 + m) (p + 1) else if b < p ∧ p ≤ a then s (q + 3 + m) (p - 1) else s (q + 3 + m) p) ∧ s_fr (q + 3 + m) (q + 3 + m + 1) s s1)) 40 [some (.ref q), some (.int (nI m)), some (.int (nI a)), some (.int (nI b)), some (.int (-1)), some (.int (nI (a - b))), some (.ref (q + 3 + m)), some (.int (s (q + 3 + m) a)), some (.int (nI (a - e))), some (.int (nI e))] [] s1 := by
      intro f
      induction f with
      | zero =>
        intro e s1 hA hf he hme
        exact absurd hme (by omega)
      | succ f ih =>
        intro e s1 hA hf he hme
        have hae : a - e < 5 := by omega
        refine r_iload dX5_shift_40 rfl ?_
        refine r_iload dX5_shift_42 rfl ?_
        refine n_cge (tgt := 73) dX5_shift_44 (by decide) (by omega) (by omega) (fun c44 => ?_) (fun c44 => ?_)
        · refine r_aload dX5_shift_73 rfl ?_
          refine r_iload_n dX5_shift_75 rfl rfl ?_
          refine r_iload dX5_shift_76 rfl ?_
          refine a_st dX5_shift_78 (X5_rows_row hq hm) (by omega) (by decide) (fun s2 hs2 hf2 => ?_)
          refine s_vret dX5_shift_79 rfl ?_
          have e9 : e = a - b := by omega
          subst e9
          refine ⟨rfl, fun p hp => ?_, s_fr_tr hf hf2⟩
          rw [hs2]
          by_cases e9 : p = b
          · subst e9; rw [pk_us, if_pos rfl]
          · rw [pk_un e9, if_neg e9, hA p hp]
            by_cases e8 : b < p ∧ p ≤ a
            · rw [if_pos (by omega), if_neg (by omega), if_pos e8]
            · rw [if_neg (by omega), if_neg (by omega), if_neg e8]
        · refine r_aload dX5_shift_47 rfl ?_
          refine r_iload dX5_shift_49 rfl ?_
          refine r_aload dX5_shift_51 rfl ?_
          refine r_iload dX5_shift_53 rfl ?_
          refine r_iload dX5_shift_55 rfl ?_
          refine r_iadd dX5_shift_57 ?_
          rw [show nI (a - e) + (-1) = nI (a - (e + 1)) from n_dec2 (by omega)]
          refine a_ld dX5_shift_58 (X5_rows_row hq hm) (by omega) (by decide) rfl ?_
          refine a_st dX5_shift_59 (X5_rows_row hq hm) (by omega) (by decide) (fun s2 hs2 hf2 => ?_)
          refine r_iload dX5_shift_60 rfl ?_
          refine r_iload dX5_shift_62 rfl ?_
          refine r_iadd dX5_shift_64 ?_
          rw [show nI (a - e) + (-1) = nI (a - (e + 1)) from n_dec2 (by omega)]
          refine r_istore dX5_shift_65 (by decide) rfl ?_
          refine n_inc dX5_shift_67 rfl (n_i1 _) (by decide) rfl ?_
          refine r_goto (tgt := 40) dX5_shift_70 (by decide) ?_
          refine ih (e + 1) s2 (fun p hp => ?_) (s_fr_tr hf hf2) (by omega) (by omega)
          rw [hs2]
          by_cases e9 : p = a - e
          · subst e9
            rw [pk_us, hA _ (by omega), if_neg (by omega), if_pos (by omega), show a - (e + 1) = a - e - 1 by omega]
          · rw [pk_un e9, hA p hp]
            by_cases e8 : a - e < p ∧ p ≤ a
            · rw [if_pos e8, if_pos (by omega)]
            · rw [if_neg e8, if_neg (by omega)]
    refine r_iload_n dX5_shift_0 rfl rfl ?_
    refine r_iload_n dX5_shift_1 rfl rfl ?_
    refine n_cge (tgt := 9) dX5_shift_2 (by decide) (by omega) (by omega) (fun c2 => ?_) (fun c2 => ?_)
    · refine r_iconst (v := -1) dX5_shift_9 (by decide) ?_
      refine r_istore dX5_shift_10 (by decide) rfl ?_
      refine r_iload_n dX5_shift_12 rfl rfl ?_
      refine r_iload_n dX5_shift_13 rfl rfl ?_
      refine r_isub dX5_shift_14 ?_
      refine r_mabs dX5_shift_15 kwM_X5_abs kwM_static_abs kwM_ini kwM_code_abs (by decide) (Nat.le_of_ble_eq_true rfl) ?_
      rw [n_abs_dn (by omega) (by omega)]
      refine r_istore dX5_shift_18 (by decide) rfl ?_
      refine r_aload_n dX5_shift_20 rfl rfl ?_
      refine s_getR dX5_shift_21 fX5_17 (layX5 hq) rfl ?_
      refine r_iload_n dX5_shift_24 rfl rfl ?_
      refine a_ald dX5_shift_25 (X5_rows hq) (by omega) (by decide) ?_
      refine r_astore dX5_shift_26 (by decide) rfl ?_
      refine r_aload dX5_shift_28 rfl ?_
      refine r_iload_n dX5_shift_30 rfl rfl ?_
      refine a_ld dX5_shift_31 (X5_rows_row hq (by omega)) (by omega) (by decide) rfl ?_
      refine r_istore dX5_shift_32 (by decide) rfl ?_
      refine r_iload_n dX5_shift_34 rfl rfl ?_
      refine r_istore dX5_shift_35 (by decide) rfl ?_
      refine n_const 0 dX5_shift_37 (by decide) ?_
      refine r_istore dX5_shift_38 (by decide) rfl ?_
      exact lp (a - b + 1) 0 s (fun p hp => by rw [if_neg (by omega)]) s_fr_rf (by omega) (by omega)
    · exact absurd c2 (by omega)
