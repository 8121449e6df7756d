section
/-! ===== the class: rows are sorted and stepped through ===== -/
theorem a_ex_s {f : Nat → Nat} {n p : Nat} (hp : 0 < p) (hpf : p ≤ n) (hI : ∀ i j, i < j → j ≤ n → j ≠ p → f i < f j) (hc : f p < f (p - 1)) : ∀ i j, i < j → j ≤ n → j ≠ p - 1 → a_ex f (p - 1) p i < a_ex f (p - 1) p j := by
  intro i j hij hj hne
  unfold a_ex
  by_cases ei : i = p
  · rw [if_pos ei, if_neg (by omega), if_neg hne]; exact hI (p - 1) j (by omega) hj (by omega)
  · rw [if_neg ei]
    by_cases ei2 : i = p - 1
    · rw [if_pos ei2]
      by_cases ej : j = p
      · rw [if_pos ej]; exact hc
      · rw [if_neg ej, if_neg hne]; exact hI p j (by omega) hj (by omega)
    · rw [if_neg ei2]
      by_cases ej : j = p
      · rw [if_pos ej]; exact hI i (p - 1) (by omega) (by omega) (by omega)
      · rw [if_neg ej, if_neg hne]; exact hI i j hij hj ej
theorem a_ex_k {f : Nat → Nat} {n p : Nat} (hp : 0 < p) (hpf : p ≤ n) (hI : ∀ i j, i < j → j ≤ n → j ≠ p → f i < f j) (hc : f (p - 1) < f p) : ∀ i j, i < j → j ≤ n → j ≠ p - 1 → f i < f j := by
  intro i j hij hj hne
  by_cases ej : j = p
  · subst ej
    by_cases ei : i = j - 1
    · rw [ei]; exact hc
    · have := hI i (j - 1) (by omega) (by omega) (by omega); omega
  · exact hI i j hij hj ej
theorem a_ex_Q {Q : Nat → Prop} {f : Nat → Nat} {n a b : Nat} (ha : a < n) (hb : b < n) (h : ∀ i, i < n → Q (f i)) : ∀ i, i < n → Q (a_ex f a b i) := by
  intro i hi
  unfold a_ex
  by_cases e : i = b
  · rw [if_pos e]; exact h a ha
  · rw [if_neg e]
    by_cases e2 : i = a
    · rw [if_pos e2]; exact h b hb
    · rw [if_neg e2]; exact h i hi
theorem a_ex_in {f : Nat → Nat} {n a b : Nat} (ha : a < n) (hb : b < n) (h : ∀ i j, i < n → j < n → f i = f j → i = j) : ∀ i j, i < n → j < n → a_ex f a b i = a_ex f a b j → i = j := by
  intro i j hi hj e
  have s : ∀ i, i < n → a_ex f a b i = f (if i = b then a else if i = a then b else i) := fun i _ => by
    unfold a_ex
    by_cases e1 : i = b
    · rw [if_pos e1, if_pos e1]
    · rw [if_neg e1, if_neg e1]
      by_cases e2 : i = a
      · rw [if_pos e2, if_pos e2]
      · rw [if_neg e2, if_neg e2]
  have b1 : ∀ i, i < n → (if i = b then a else if i = a then b else i) < n := fun i hi => by split; (· exact ha); split; (· exact hb); exact hi
  rw [s i hi, s j hj] at e
  have q := h _ _ (b1 i hi) (b1 j hj) e
  by_cases e1 : i = b
  · rw [if_pos e1] at q
    by_cases e2 : j = b
    · omega
    · rw [if_neg e2] at q
      by_cases e4 : j = a
      · rw [if_pos e4] at q; omega
      · rw [if_neg e4] at q; omega
  · rw [if_neg e1] at q
    by_cases e3 : i = a
    · rw [if_pos e3] at q
      by_cases e2 : j = b
      · rw [if_pos e2] at q; omega
      · rw [if_neg e2] at q
        by_cases e4 : j = a
        · rw [if_pos e4] at q; omega
        · rw [if_neg e4] at q; omega
    · rw [if_neg e3] at q
      by_cases e2 : j = b
      · rw [if_pos e2] at q; omega
      · rw [if_neg e2] at q
        by_cases e4 : j = a
        · rw [if_pos e4] at q; omega
        · rw [if_neg e4] at q; exact q
theorem a_ex_st {s s1 : s_T} {k a b n : Nat} {g f : Nat → Nat} (ha : a < n) (hb : b < n) (hA : ∀ i, i < n → s k i = nI (g (f i))) (h : s1 k = upd (upd (s k) a (s k b)) b (s k a)) : ∀ i, i < n → s1 k i = nI (g (a_ex f a b i)) := by
  intro i hi
  rw [h]
  unfold a_ex
  by_cases e : i = b
  · rw [if_pos e, e, pk_us]; exact hA a ha
  · rw [if_neg e, pk_un e]
    by_cases e2 : i = a
    · rw [if_pos e2, e2, pk_us]; exact hA b hb
    · rw [if_neg e2, pk_un e2]; exact hA i hi
set_option maxRecDepth 20000 in
set_option maxHeartbeats 1000000 in
theorem c_rExchange {G : q_G} {s : s_T} {k a b : Nat} (hl : q_lay k = .inl (0, 5, none)) (ha : a < 5) (hb : b < 5) : s_W G mX6_exchange 1 0 0 (c_V (fun s1 => s1 k = upd (upd (s k) a (s k b)) b (s k a) ∧ s_fr k (k + 1) s s1)) 0 (q_ent mX6_exchange [.ref k, .int (nI a), .int (nI b)]) [] s := by
  show s_W G mX6_exchange 1 0 0 _ 0 [some (.ref k), some (.int (nI a)), some (.int (nI b)), none] [] s
  refine r_aload_n dX6_exchange_0 rfl rfl ?_
  refine r_iload_n dX6_exchange_1 rfl rfl ?_
  refine a_ld dX6_exchange_2 hl (by omega) (by decide) rfl ?_
  refine r_istore_n dX6_exchange_3 rfl (by decide) rfl ?_
  refine r_aload_n dX6_exchange_4 rfl rfl ?_
  refine r_iload_n dX6_exchange_5 rfl rfl ?_
  refine r_aload_n dX6_exchange_6 rfl rfl ?_
  refine r_iload_n dX6_exchange_7 rfl rfl ?_
  refine a_ld dX6_exchange_8 hl (by omega) (by decide) rfl ?_
  refine a_st dX6_exchange_9 hl (by omega) (by decide) (fun s1 hs1 hf1 => ?_)
  refine r_aload_n dX6_exchange_10 rfl rfl ?_
  refine r_iload_n dX6_exchange_11 rfl rfl ?_
  refine r_iload_n dX6_exchange_12 rfl rfl ?_
  refine a_st dX6_exchange_13 hl (by omega) (by decide) (fun s2 hs2 hf2 => ?_)
  refine s_vret dX6_exchange_14 rfl ?_
  exact ⟨rfl, by rw [hs2, hs1], s_fr_tr hf1 hf2⟩
set_option maxRecDepth 20000 in
set_option maxHeartbeats 1000000 in
theorem c_sort {G : q_G} {s : s_T} {k n : Nat} {f0 : Nat → Nat} {Q : Nat → Prop} (hl : q_lay k = .inl (0, 5, none)) (hn : n ≤ 5) (hA0 : ∀ i, i < n → s k i = nI (f0 i)) (hQ0 : ∀ i, i < n → Q (f0 i)) (hin0 : ∀ i j, i < n → j < n → f0 i = f0 j → i = j) (hQb : ∀ x, Q x → x < 1000) : s_W G mX6_sort 2 0 0 (c_V (fun s1 => ∃ f9 : Nat → Nat, (∀ i, i < n → s1 k i = nI (f9 i)) ∧ (∀ i, i < n → Q (f9 i)) ∧ (∀ i j, i < j → j < n → f9 i < f9 j) ∧ s_fr k (k + 1) s s1)) 0 (q_ent mX6_sort [.ref k, .int (nI n)]) [] s := by
  show s_W G mX6_sort 2 0 0 _ 0 [some (.ref k), some (.int (nI n)), none, none] [] s
  have ol : ∀ f3 fl (f : Nat → Nat) (L3 : Option Value) u1, (∀ i, i < n → u1 k i = nI (f i)) → (∀ i, i < n → Q (f i)) → (∀ i j, i < n → j < n → f i = f j → i = j) → (∀ i j, i < j → j < fl → f i < f j) → s_fr k (k + 1) s u1 → 1 ≤ fl → fl ≤ n + 1 → n + 1 < fl + f3 → s_W G mX6_sort 2 0 0 (c_V (fun s1 => ∃ f9 : Nat → Nat, (∀ i, i < n → s1 k i = nI (f9 i)) ∧ (∀ i, i < n → Q (f9 i)) ∧ (∀ i j, i < j → j < n → f9 i < f9 j) ∧ s_fr k (k + 1) s s1)) 2 [some (.ref k), some (.int (nI n)), some (.int (nI fl)), L3] [] u1 := by
    intro f3
    induction f3 with
    | zero =>
      intro fl f L3 u1 hA hQ hin hI hf h1 h2 hme
      exact absurd hme (by omega)
    | succ f3 ih =>
      intro fl f L3 u1 hA hQ hin hI hf h1 h2 hme
      refine r_iload_n dX6_sort_2 rfl rfl ?_
      refine r_iload_n dX6_sort_3 rfl rfl ?_
      refine n_cge (tgt := 44) dX6_sort_4 (by decide) (by omega) (by omega) (fun c4 => ?_) (fun c4 => ?_)
      · refine s_vret dX6_sort_44 rfl ?_
        exact ⟨rfl, f, hA, hQ, fun i j h1 h2 => hI i j h1 (by omega), hf⟩
      · refine r_iload_n dX6_sort_7 rfl rfl ?_
        refine r_istore_n dX6_sort_8 rfl (by decide) rfl ?_
        have il : ∀ f2 p (f : Nat → Nat) u1, (∀ i, i < n → u1 k i = nI (f i)) → (∀ i, i < n → Q (f i)) → (∀ i j, i < n → j < n → f i = f j → i = j) → (∀ i j, i < j → j ≤ fl → j ≠ p → f i < f j) → s_fr k (k + 1) s u1 → p ≤ fl → p < f2 → s_W G mX6_sort 2 0 0 (c_V (fun s1 => ∃ f9 : Nat → Nat, (∀ i, i < n → s1 k i = nI (f9 i)) ∧ (∀ i, i < n → Q (f9 i)) ∧ (∀ i j, i < j → j < n → f9 i < f9 j) ∧ s_fr k (k + 1) s s1)) 9 [some (.ref k), some (.int (nI n)), some (.int (nI fl)), some (.int (nI p))] [] u1 := by
          intro f2
          induction f2 with
          | zero =>
            intro p f u1 hA hQ hin hI hf hp hme
            exact absurd hme (by omega)
          | succ f2 ih2 =>
            intro p f u1 hA hQ hin hI hf hp hme
            refine r_iload_n dX6_sort_9 rfl rfl ?_
            refine n_ifle (tgt := 38) dX6_sort_10 (by decide) (by omega) (fun c10 => ?_) (fun c10 => ?_)
            · refine n_inc dX6_sort_38 rfl (n_i1 _) (by decide) rfl ?_
              refine r_goto (tgt := 2) dX6_sort_41 (by decide) ?_
              have e9 : p = 0 := by omega
              subst e9
              exact ih (fl + 1) f _ u1 hA hQ hin (fun i j h1 h2 => hI i j h1 (by omega) (by omega)) hf (by omega) (by omega) (by omega)
            · have b1 := hQb _ (hQ p (by omega))
              have b2 := hQb _ (hQ (p - 1) (by omega))
              refine r_aload_n dX6_sort_13 rfl rfl ?_
              refine r_iload_n dX6_sort_14 rfl rfl ?_
              refine n_const 1 dX6_sort_15 (by decide) ?_
              refine n_sub dX6_sort_16 (by omega) ?_
              refine a_ld dX6_sort_17 hl (by omega) (by decide) (hA _ (by omega)) ?_
              refine r_aload_n dX6_sort_18 rfl rfl ?_
              refine r_iload_n dX6_sort_19 rfl rfl ?_
              refine a_ld dX6_sort_20 hl (by omega) (by decide) (hA _ (by omega)) ?_
              refine n_cle (tgt := 32) dX6_sort_21 (by decide) (by omega) (by omega) (fun c21 => ?_) (fun c21 => ?_)
              · refine n_inc dX6_sort_32 rfl (n_dec (by omega)) (by decide) rfl ?_
                refine r_goto (tgt := 9) dX6_sort_35 (by decide) ?_
                first
                  | (have c9 : f (p - 1) < f p := by
                       have q9 : f (p - 1) ≠ f p := fun z => by have := hin _ _ (by omega) (by omega) z; omega
                       omega
                     exact ih2 (p - 1) f u1 hA hQ hin (a_ex_k (by omega) (by omega) hI c9) hf (by omega) (by omega))
                  | exact ih2 (p - 1) _ s1 (a_ex_st (g := fun x => x) (by omega) (by omega) hA hs2) (a_ex_Q (by omega) (by omega) hQ) (a_ex_in (by omega) (by omega) hin) (a_ex_s (by omega) (by omega) hI (by omega)) (s_fr_tr hf hf2) (by omega) (by omega)
              · refine r_aload_n dX6_sort_24 rfl rfl ?_
                refine r_iload_n dX6_sort_25 rfl rfl ?_
                refine n_const 1 dX6_sort_26 (by decide) ?_
                refine n_sub dX6_sort_27 (by omega) ?_
                refine r_iload_n dX6_sort_28 rfl rfl ?_
                refine s_S3V mX6_exchange dX6_sort_29 okX6_exchange lX6_62 npX6_exchange (by decide) (by decide) (by decide) (Nat.le_of_ble_eq_true rfl) (Nat.le_of_ble_eq_true rfl) (c_rExchange hl (by omega) (by omega)) (fun s1 hq => ?_)
                obtain ⟨hs2, hf2⟩ := hq
                refine n_inc dX6_sort_32 rfl (n_dec (by omega)) (by decide) rfl ?_
                refine r_goto (tgt := 9) dX6_sort_35 (by decide) ?_
                first
                  | (have c9 : f (p - 1) < f p := by
                       have q9 : f (p - 1) ≠ f p := fun z => by have := hin _ _ (by omega) (by omega) z; omega
                       omega
                     exact ih2 (p - 1) f u1 hA hQ hin (a_ex_k (by omega) (by omega) hI c9) hf (by omega) (by omega))
                  | exact ih2 (p - 1) _ s1 (a_ex_st (g := fun x => x) (by omega) (by omega) hA hs2) (a_ex_Q (by omega) (by omega) hQ) (a_ex_in (by omega) (by omega) hin) (a_ex_s (by omega) (by omega) hI (by omega)) (s_fr_tr hf hf2) (by omega) (by omega)
        exact il (fl + 1) fl f u1 hA hQ hin (fun i j h1 h2 h3 => hI i j h1 (by omega)) hf (by omega) (by omega)
  refine n_const 1 dX6_sort_0 (by decide) ?_
  refine r_istore_n dX6_sort_1 rfl (by decide) rfl ?_
  exact ol (n + 2) 1 f0 _ s hA0 hQ0 hin0 (fun i j h1 h2 => absurd h2 (by omega)) s_fr_rf (by omega) (by omega) (by omega)
def a_pi (c : Nat) : Int32 := match c with
  | 0 => -1
  | c + 1 => nI c
theorem a_pi_d (c : Nat) : nI c + Int32.ofInt (-1) = a_pi c := by
  cases c with
  | zero => decide
  | succ c => exact n_dec (by omega)
theorem nI_nn {a : Nat} (h : a < 2 ^ 31) : 0 ≤ nI a := by rw [← nI_0, nI_leI (by decide) h]; omega
theorem nI_nn2 {a : Nat} (h : a < 2 ^ 31) : ¬ nI a < 0 := fun q => i_lt_le q (nI_nn h)
theorem a_rv_st {f lo hi : Nat} {p : Nat → Nat} (h : ¬ lo < hi) : a_rv f lo hi p = p := by
  cases f with
  | zero => rfl
  | succ f => show (if _ then _ else _) = _; rw [if_neg h]
theorem a_rv_s {f lo hi : Nat} {p : Nat → Nat} (h : lo < hi) : a_rv (f + 1) lo hi p = a_rv f (lo + 1) (hi - 1) (a_ex p lo hi) := by
  show (if _ then _ else _) = _; rw [if_pos h]
theorem a_pv_lt {p : Nat → Nat} : ∀ c, a_pv p c ≤ c
  | 0 => Nat.le_refl _
  | c + 1 => by
    have h := a_pv_lt (p := p) c
    show (if p (c + 1) < p c then a_pv p c else c + 1) ≤ c + 1
    split <;> omega
theorem a_pt_lt {p : Nat → Nat} {v : Nat} : ∀ q, a_pt p v q ≤ q
  | 0 => Nat.le_refl _
  | q + 1 => by
    have h := a_pt_lt (p := p) (v := v) q
    show (if v + 1 < q + 1 ∧ p (q + 1) < p v then a_pt p v q else q + 1) ≤ q + 1
    split <;> omega
set_option maxRecDepth 20000 in
set_option maxHeartbeats 1000000 in
theorem c_advance {G : q_G} {s : s_T} {k n : Nat} {p g : Nat → Nat} (hl : q_lay k = .inl (0, 5, none)) (hn : n ≤ 5) (hA : ∀ i, i < n → s k i = nI (g (p i))) (hp : ∀ i, i < n → p i < n) (hgb : ∀ i, i < n → g i < 1000) (hgm : ∀ i j, i < n → j < n → (g i < g j ↔ i < j)) : s_W G mX6_advance 2 0 0 (c_I (fun y9 s1 => y9 = bI (a_nx n p).isSome ∧ (∀ i, i < n → s1 k i = nI (g ((a_nx n p).getD p i))) ∧ s_fr k (k + 1) s s1)) 0 (q_ent mX6_advance [.ref k, .int (nI n)]) [] s := by
  show s_W G mX6_advance 2 0 0 _ 0 [some (.ref k), some (.int (nI n)), none, none, none, none] [] s
  have l1 : ∀ f c, a_pv p c = a_pv p (n - 1) → c ≤ n - 1 → c < f → s_W G mX6_advance 2 0 0 (c_I (fun y9 s1 => y9 = bI (a_nx n p).isSome ∧ (∀ i, i < n → s1 k i = nI (g ((a_nx n p).getD p i))) ∧ s_fr k (k + 1) s s1)) 4 [some (.ref k), some (.int (nI n)), some (.int (a_pi c)), none, none, none] [] s := by
    intro f
    induction f with
    | zero =>
      intro c hc0 hc hme
      exact absurd hme (by omega)
    | succ f ih =>
      intro c hc0 hc hme
      cases c with
      | zero =>
        show s_W G mX6_advance 2 0 0 _ 4 [some (.ref k), some (.int (nI n)), some (.int (-1)), none, none, none] [] s
        refine r_iload_n dX6_advance_4 rfl rfl ?_
        refine r_if_lt (tgt := 25) dX6_advance_5 (by decide) (fun c5 => ?_) (fun c5 => ?_)
        · refine r_iload_n dX6_advance_25 rfl rfl ?_
          refine r_if_ge (tgt := 31) dX6_advance_26 (by decide) (fun c26 => ?_) (fun c26 => ?_)
          · exact absurd c26 (by decide)
          · refine n_const 0 dX6_advance_29 (by decide) ?_
            refine s_iret dX6_advance_30 rfl rfl ?_
            have hN : a_nx n p = none := by
              unfold a_nx
              rw [← hc0]
              exact if_pos rfl
            refine ⟨_, rfl, by rw [hN]; rfl, fun i hi => by rw [hN]; exact hA i hi, s_fr_rf⟩
        · exact absurd (by decide) c5
      | succ v =>
        show s_W G mX6_advance 2 0 0 _ 4 [some (.ref k), some (.int (nI n)), some (.int (nI v)), none, none, none] [] s
        refine r_iload_n dX6_advance_4 rfl rfl ?_
        refine r_if_lt (tgt := 25) dX6_advance_5 (by decide) (fun c5 => ?_) (fun c5 => ?_)
        · exact absurd c5 (nI_nn2 (by omega))
        · have b1 := hgb _ (hp v (by omega))
          have b2 := hgb _ (hp (v + 1) (by omega))
          refine r_aload_n dX6_advance_8 rfl rfl ?_
          refine r_iload_n dX6_advance_9 rfl rfl ?_
          refine a_ld dX6_advance_10 hl (by omega) (by decide) (hA _ (by omega)) ?_
          refine r_aload_n dX6_advance_11 rfl rfl ?_
          refine r_iload_n dX6_advance_12 rfl rfl ?_
          refine n_const 1 dX6_advance_13 (by decide) ?_
          refine n_add dX6_advance_14 ?_
          refine a_ld dX6_advance_15 hl (by omega) (by decide) (hA _ (by omega)) ?_
          refine n_cle (tgt := 25) dX6_advance_16 (by decide) (by omega) (by omega) (fun c16 => ?_) (fun c16 => ?_)
          · refine r_iload_n dX6_advance_25 rfl rfl ?_
            refine r_if_ge (tgt := 31) dX6_advance_26 (by decide) (fun c26 => ?_) (fun c26 => ?_)
            · refine r_iload_n dX6_advance_31 rfl rfl ?_
              refine n_const 1 dX6_advance_32 (by decide) ?_
              refine n_sub dX6_advance_33 (by omega) ?_
              refine r_istore_n dX6_advance_34 rfl (by decide) rfl ?_
              have hv : v + 1 = a_pv p (n - 1) := by
                rw [← hc0]
                show _ = (if _ then _ else _)
                rw [if_neg (fun z9 => by have z8 := (hgm _ _ (hp _ (by omega)) (hp _ (by omega))).mpr z9; omega)]
              have t57 : ∀ q0, q0 = a_pt p v (n - 1) → s_W G mX6_advance 2 0 0 (c_I (fun y9 s1 => y9 = bI (a_nx n p).isSome ∧ (∀ i, i < n → s1 k i = nI (g ((a_nx n p).getD p i))) ∧ s_fr k (k + 1) s s1)) 57 [some (.ref k), some (.int (nI n)), some (.int (nI v)), some (.int (nI q0)), none, none] [] s := by
                intro q0 hq9
                have b5 := a_pt_lt (p := p) (v := v) (n - 1)
                obtain ⟨PE, hN⟩ : ∃ PE, a_nx n p = some PE := by
                  unfold a_nx
                  rw [← hv, if_neg (by omega)]
                  exact ⟨_, rfl⟩
                have hN2 : a_rv n (v + 1) (n - 1) (a_ex p v q0) = PE := by
                  have h9 := hN
                  unfold a_nx at h9
                  rw [← hv, if_neg (by omega), show v + 1 - 1 = v by omega, ← hq9] at h9
                  exact Option.some.inj h9
                have l3 : ∀ f3 lo hi w (f : Nat → Nat) u1, (∀ i, i < n → u1 k i = nI (g (f i))) → a_rv w lo hi f = PE → s_fr k (k + 1) s u1 → hi < n → hi < lo + w → lo ≤ 6 → lo ≤ hi + 1 → hi + 1 < lo + f3 → s_W G mX6_advance 2 0 0 (c_I (fun y9 s1 => y9 = bI (a_nx n p).isSome ∧ (∀ i, i < n → s1 k i = nI (g ((a_nx n p).getD p i))) ∧ s_fr k (k + 1) s s1)) 73 [some (.ref k), some (.int (nI n)), some (.int (nI v)), some (.int (nI q0)), some (.int (nI hi)), some (.int (nI lo))] [] u1 := by
                  intro f3
                  induction f3 with
                  | zero =>
                    intro lo hi w f u1 hA hX hf hhi hw9 hlo hlh hme
                    exact absurd hme (by omega)
                  | succ f3 ih3 =>
                    intro lo hi w f u1 hA hX hf hhi hw9 hlo hlh hme
                    refine r_iload dX6_advance_73 rfl ?_
                    refine r_iload dX6_advance_75 rfl ?_
                    refine n_cge (tgt := 97) dX6_advance_77 (by decide) (by omega) (by omega) (fun c77 => ?_) (fun c77 => ?_)
                    · refine n_const 1 dX6_advance_97 (by decide) ?_
                      refine s_iret dX6_advance_98 rfl rfl ?_
                      refine ⟨_, rfl, by rw [hN]; rfl, fun i hi9 => ?_, hf⟩
                      rw [hN]
                      rw [a_rv_st (by omega)] at hX
                      subst hX
                      exact hA i hi9
                    · refine r_aload_n dX6_advance_80 rfl rfl ?_
                      refine r_iload dX6_advance_81 rfl ?_
                      refine r_iload dX6_advance_83 rfl ?_
                      refine s_S3V mX6_exchange dX6_advance_85 okX6_exchange lX6_62 npX6_exchange (by decide) (by decide) (by decide) (Nat.le_of_ble_eq_true rfl) (Nat.le_of_ble_eq_true rfl) (c_rExchange hl (by omega) (by omega)) (fun s1 hq => ?_)
                      obtain ⟨hs2, hf2⟩ := hq
                      refine n_inc dX6_advance_88 rfl (n_dec (by omega)) (by decide) rfl ?_
                      refine n_inc dX6_advance_91 rfl (n_i1 _) (by decide) rfl ?_
                      refine r_goto (tgt := 73) dX6_advance_94 (by decide) ?_
                      obtain ⟨w', hw'⟩ : ∃ w', w = w' + 1 := ⟨w - 1, by omega⟩
                      subst hw'
                      rw [a_rv_s (by omega)] at hX
                      exact ih3 (lo + 1) (hi - 1) w' _ s1 (a_ex_st (by omega) (by omega) hA hs2) hX (s_fr_tr hf hf2) (by omega) (by omega) (by omega) (by omega) (by omega)
                refine r_aload_n dX6_advance_57 rfl rfl ?_
                refine r_iload_n dX6_advance_58 rfl rfl ?_
                refine r_iload_n dX6_advance_59 rfl rfl ?_
                refine s_S3V mX6_exchange dX6_advance_60 okX6_exchange lX6_62 npX6_exchange (by decide) (by decide) (by decide) (Nat.le_of_ble_eq_true rfl) (Nat.le_of_ble_eq_true rfl) (c_rExchange hl (by omega) (by omega)) (fun s1 hq => ?_)
                obtain ⟨hs2, hf2⟩ := hq
                refine r_iload_n dX6_advance_63 rfl rfl ?_
                refine n_const 1 dX6_advance_64 (by decide) ?_
                refine n_sub dX6_advance_65 (by omega) ?_
                refine r_istore dX6_advance_66 (by decide) rfl ?_
                refine r_iload_n dX6_advance_68 rfl rfl ?_
                refine n_const 1 dX6_advance_69 (by decide) ?_
                refine n_add dX6_advance_70 ?_
                refine r_istore dX6_advance_71 (by decide) rfl ?_
                exact l3 20 (v + 1) (n - 1) n _ s1 (a_ex_st (by omega) (by omega) hA hs2) hN2 hf2 (by omega) (by omega) (by omega) (by omega) (by omega)
              have l2 : ∀ f2 q, a_pt p v q = a_pt p v (n - 1) → q ≤ n - 1 → q < f2 → s_W G mX6_advance 2 0 0 (c_I (fun y9 s1 => y9 = bI (a_nx n p).isSome ∧ (∀ i, i < n → s1 k i = nI (g ((a_nx n p).getD p i))) ∧ s_fr k (k + 1) s s1)) 35 [some (.ref k), some (.int (nI n)), some (.int (nI v)), some (.int (nI q)), none, none] [] s := by
                intro f2
                induction f2 with
                | zero =>
                  intro q hqA hqn hme
                  exact absurd hme (by omega)
                | succ f2 ih2 =>
                  intro q hqA hqn hme
                  cases q with
                  | zero =>
                    refine r_iload_n dX6_advance_35 rfl rfl ?_
                    refine r_iload_n dX6_advance_36 rfl rfl ?_
                    refine n_const 1 dX6_advance_37 (by decide) ?_
                    refine n_add dX6_advance_38 ?_
                    refine n_cle (tgt := 57) dX6_advance_39 (by decide) (by omega) (by omega) (fun c39 => ?_) (fun c39 => ?_)
                    · exact t57 0 hqA
                    · exact absurd c39 (by omega)
                  | succ q =>
                    refine r_iload_n dX6_advance_35 rfl rfl ?_
                    refine r_iload_n dX6_advance_36 rfl rfl ?_
                    refine n_const 1 dX6_advance_37 (by decide) ?_
                    refine n_add dX6_advance_38 ?_
                    refine n_cle (tgt := 57) dX6_advance_39 (by decide) (by omega) (by omega) (fun c39 => ?_) (fun c39 => ?_)
                    · refine t57 (q + 1) ?_
                      rw [← hqA]
                      show _ = (if _ then _ else _)
                      rw [if_neg (fun z9 => by
                        first
                          | omega
                          | (have z8 := (hgm _ _ (hp (q + 1) (by omega)) (hp v (by omega))).mpr z9.2; omega))]
                    · have b1 := hgb _ (hp (q + 1) (by omega))
                      have b2 := hgb _ (hp v (by omega))
                      refine r_aload_n dX6_advance_42 rfl rfl ?_
                      refine r_iload_n dX6_advance_43 rfl rfl ?_
                      refine a_ld dX6_advance_44 hl (by omega) (by decide) (hA _ (by omega)) ?_
                      refine r_aload_n dX6_advance_45 rfl rfl ?_
                      refine r_iload_n dX6_advance_46 rfl rfl ?_
                      refine a_ld dX6_advance_47 hl (by omega) (by decide) (hA _ (by omega)) ?_
                      refine n_cge (tgt := 57) dX6_advance_48 (by decide) (by omega) (by omega) (fun c48 => ?_) (fun c48 => ?_)
                      · refine t57 (q + 1) ?_
                        rw [← hqA]
                        show _ = (if _ then _ else _)
                        rw [if_neg (fun z9 => by
                          first
                            | omega
                            | (have z8 := (hgm _ _ (hp (q + 1) (by omega)) (hp v (by omega))).mpr z9.2; omega))]
                      · refine n_inc dX6_advance_51 rfl (n_dec (by omega)) (by decide) rfl ?_
                        refine r_goto (tgt := 35) dX6_advance_54 (by decide) ?_
                        refine ih2 (q + 1 - 1) ?_ (by omega) (by omega)
                        rw [← hqA]
                        show _ = (if _ then _ else _)
                        rw [if_pos ⟨by omega, (hgm _ _ (hp _ (by omega)) (hp _ (by omega))).mp (by omega)⟩]
                        try rfl
              exact l2 (n + 1) (n - 1) rfl (by omega) (by omega)
            · exact absurd (nI_nn (by omega)) c26
          · refine r_iinc dX6_advance_19 rfl (a_pi_d _) (by decide) rfl ?_
            refine r_goto (tgt := 4) dX6_advance_22 (by decide) ?_
            refine ih v ?_ (by omega) (by omega)
            rw [← hc0]
            show _ = (if _ then _ else _)
            rw [if_pos ((hgm _ _ (hp _ (by omega)) (hp _ (by omega))).mp (by omega))]
  by_cases hn2 : 2 ≤ n
  · refine r_iload_n dX6_advance_0 rfl rfl ?_
    refine n_const 2 dX6_advance_1 (by decide) ?_
    refine n_sub dX6_advance_2 (by omega) ?_
    refine r_istore_n dX6_advance_3 rfl (by decide) rfl ?_
    show s_W G mX6_advance 2 0 0 _ 4 [some (.ref k), some (.int (nI n)), some (.int (nI (n - 2))), none, none, none] [] s
    have e4 : nI (n - 2) = a_pi (n - 1) := by rw [show n - 1 = n - 2 + 1 by omega]; rfl
    rw [e4]
    exact l1 (n + 1) (n - 1) rfl (by omega) (by omega)
  · have hN : a_nx n p = none := by
      unfold a_nx
      rw [show n - 1 = 0 by omega]
      exact if_pos rfl
    have e5 : nI n - nI 2 < 0 := by rw [Int32.lt_iff_toInt_lt, nI_sub (by omega) (by omega)]; show (n : Int) - 2 < 0; omega
    refine r_iload_n dX6_advance_0 rfl rfl ?_
    refine n_const 2 dX6_advance_1 (by decide) ?_
    refine r_isub dX6_advance_2 ?_
    refine r_istore_n dX6_advance_3 rfl (by decide) rfl ?_
    refine r_iload_n dX6_advance_4 rfl rfl ?_
    refine r_if_lt (tgt := 25) dX6_advance_5 (by decide) (fun c5 => ?_) (fun c5 => ?_)
    · refine r_iload_n dX6_advance_25 rfl rfl ?_
      refine r_if_ge (tgt := 31) dX6_advance_26 (by decide) (fun c26 => ?_) (fun c26 => ?_)
      · exact absurd c26 (fun z9 => i_lt_le e5 z9)
      · refine n_const 0 dX6_advance_29 (by decide) ?_
        refine s_iret dX6_advance_30 rfl rfl ?_
        exact ⟨_, rfl, by rw [hN]; rfl, fun i hi => by rw [hN]; exact hA i hi, s_fr_rf⟩
    · exact absurd e5 c5
end
