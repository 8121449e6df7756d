section
/-! ===== the reference: reading a text ===== -/
def v_T (t : Nat → Nat) (n : Nat) (s : s_T) : Prop := (s 212 5 = nI n ∧ ∀ k, k < n → s 215 k = nI (t k)) ∧ n ≤ 80 ∧ ∀ k, k < n → t k < 65536
def r_G (s s1 : s_T) : Prop := (∀ j, j ≠ 30 → j ≠ 31 → j ≠ 32 → s1 212 j = s 212 j) ∧ ∀ k, k ≠ 212 → s1 k = s k
def r_F (s s1 : s_T) : Prop := (∀ j, j < 30 ∨ 36 ≤ j → s1 212 j = s 212 j) ∧ ∀ k, k ≠ 212 → k ≠ 213 → s1 k = s k
theorem r_G_rf {s : s_T} : r_G s s := ⟨fun _ _ _ _ => rfl, fun _ _ => rfl⟩
theorem r_G_tr {s s1 s2 : s_T} (h1 : r_G s s1) (h2 : r_G s1 s2) : r_G s s2 := ⟨fun j a b c => (h2.1 j a b c).trans (h1.1 j a b c), fun k a => (h2.2 k a).trans (h1.2 k a)⟩
theorem r_F_rf {s : s_T} : r_F s s := ⟨fun _ _ => rfl, fun _ _ _ => rfl⟩
theorem r_F_tr {s s1 s2 : s_T} (h1 : r_F s s1) (h2 : r_F s1 s2) : r_F s s2 := ⟨fun j a => (h2.1 j a).trans (h1.1 j a), fun k a b => (h2.2 k a b).trans (h1.2 k a b)⟩
theorem r_F_G {s s1 : s_T} (h : r_G s s1) : r_F s s1 := ⟨fun j a => h.1 j (by omega) (by omega) (by omega), fun k a _ => h.2 k a⟩
theorem r_F_fr {s s1 : s_T} (h : s_fr 213 214 s s1) : r_F s s1 := ⟨fun j _ => by rw [h 212 (by omega)], fun k a b => h k (by omega)⟩
theorem r_G_put {s s1 : s_T} {j : Nat} {v : Int32} (h : s1 212 = upd (s 212) j v) (hf : s_fr 212 (212 + 1) s s1) (hj : j = 30 ∨ j = 31 ∨ j = 32) : r_G s s1 := ⟨fun q a b c => by rw [h, pk_un (by omega)], fun k a => hf k (by omega)⟩
theorem v_T_F {t : Nat → Nat} {n : Nat} {s s1 : s_T} (h : v_T t n s) (hf : r_F s s1) : v_T t n s1 := by
  unfold v_T
  rw [hf.1 5 (by omega), hf.2 215 (by omega) (by omega)]
  exact h
theorem v_T_G {t : Nat → Nat} {n : Nat} {s s1 : s_T} (h : v_T t n s) (hf : r_G s s1) : v_T t n s1 := v_T_F h (r_F_G hf)
set_option maxRecDepth 20000 in
set_option maxHeartbeats 1000000 in
theorem c_isDigit {G : q_G} {s : s_T} {t : Nat → Nat} {n p : Nat} (hT : v_T t n s) (h30 : s 212 30 = nI p) (hp : p ≤ 80) : s_W G mX12_isDigit 3 0 0 (c_I (fun y9 s1 => s1 = s ∧ y9 = bI (decide (p < n ∧ 48 ≤ t p ∧ t p ≤ 57)))) 0 (q_ent mX12_isDigit [.ref 212]) [] s := by
  show s_W G mX12_isDigit 3 0 0 _ 0 [some (.ref 212)] [] s
  have hn8 := hT.2.1
  refine r_aload_n dX12_isDigit_0 rfl rfl ?_
  refine s_getI dX12_isDigit_1 fX12_282 lysX12 rfl h30 ?_
  refine r_aload_n dX12_isDigit_4 rfl rfl ?_
  refine s_getI dX12_isDigit_5 fX12_279 lysX12 rfl hT.1.1 ?_
  refine n_cge (tgt := 37) dX12_isDigit_8 (by decide) (by omega) (by omega) (fun c8 => ?_) (fun c8 => ?_)
  · refine n_const 0 dX12_isDigit_37 (by decide) ?_
    refine s_iret dX12_isDigit_38 rfl rfl ?_
    refine ⟨_, rfl, rfl, ?_⟩
    first
      | (rw [show decide (p < n ∧ 48 ≤ t p ∧ t p ≤ 57) = true from decide_eq_true ⟨c8, of_decide_eq_true c30⟩]; rfl)
      | (rw [show decide (p < n ∧ 48 ≤ t p ∧ t p ≤ 57) = false from decide_eq_false (fun z => (of_decide_eq_false c30) z.2)]; rfl)
      | (rw [show decide (p < n ∧ 48 ≤ t p ∧ t p ≤ 57) = false from decide_eq_false (fun z => by omega)]; rfl)
  · have hc9 := hT.2.2 p c8
    refine r_aload_n dX12_isDigit_11 rfl rfl ?_
    refine s_getR dX12_isDigit_12 fX12_16 lysX12 rfl ?_
    refine r_aload_n dX12_isDigit_15 rfl rfl ?_
    refine s_getI dX12_isDigit_16 fX12_282 lysX12 rfl h30 ?_
    refine a_cld dX12_isDigit_19 rfl (by omega) (by decide) (hT.1.2 p (by omega)) ?_
    refine r_i2l dX12_isDigit_20 rfl ?_
    refine r_ldc2 dX12_isDigit_21 kL_285 ?_
    refine r_ldc2 dX12_isDigit_24 kL_287 ?_
    refine s_S3I mX12_in dX12_isDigit_27 okX12_in lX12_82 npX12_in (by decide) (by decide) (by decide) (Nat.le_of_ble_eq_true rfl) (Nat.le_of_ble_eq_true rfl) (c_in2 (by decide) (by decide)) (fun x s1 hq => ?_)
    obtain ⟨rfl, rfl⟩ := hq
    rw [iIn_nI (show t p < 2 ^ 31 by omega)]
    refine b_ifeq (tgt := 37) dX12_isDigit_30 (by decide) (fun c30 => ?_) (fun c30 => ?_)
    · refine n_const 0 dX12_isDigit_37 (by decide) ?_
      refine s_iret dX12_isDigit_38 rfl rfl ?_
      refine ⟨_, rfl, rfl, ?_⟩
      first
        | (rw [show decide (p < n ∧ 48 ≤ t p ∧ t p ≤ 57) = true from decide_eq_true ⟨c8, of_decide_eq_true c30⟩]; rfl)
        | (rw [show decide (p < n ∧ 48 ≤ t p ∧ t p ≤ 57) = false from decide_eq_false (fun z => (of_decide_eq_false c30) z.2)]; rfl)
        | (rw [show decide (p < n ∧ 48 ≤ t p ∧ t p ≤ 57) = false from decide_eq_false (fun z => by omega)]; rfl)
    · refine n_const 1 dX12_isDigit_33 (by decide) ?_
      refine r_goto (tgt := 38) dX12_isDigit_34 (by decide) ?_
      refine s_iret dX12_isDigit_38 rfl rfl ?_
      refine ⟨_, rfl, rfl, ?_⟩
      first
        | (rw [show decide (p < n ∧ 48 ≤ t p ∧ t p ≤ 57) = true from decide_eq_true ⟨c8, of_decide_eq_true c30⟩]; rfl)
        | (rw [show decide (p < n ∧ 48 ≤ t p ∧ t p ≤ 57) = false from decide_eq_false (fun z => (of_decide_eq_false c30) z.2)]; rfl)
        | (rw [show decide (p < n ∧ 48 ≤ t p ∧ t p ≤ 57) = false from decide_eq_false (fun z => by omega)]; rfl)
set_option maxRecDepth 20000 in
set_option maxHeartbeats 1000000 in
theorem c_readNumL {G : q_G} {s : s_T} {t : Nat → Nat} {n k p : Nat} (hT : v_T t n s) (h30 : s 212 30 = nI p) (h31 : s 212 31 = -1) (hp : p ≤ n) : s_W G mX12_readNumber 4 0 0 (c_V (fun s1 => s1 212 30 = nI (p + (w_c t n k p)) ∧ s1 212 31 = (if (w_c t n k p) = 0 then nI p else -1) ∧ s1 212 32 = nI (w_pv t p (w_c t n k p)) ∧ r_G s s1)) 0 (q_ent mX12_readNumber [.ref 212, .int (nI (w_mo k))]) [] s := by
  show s_W G mX12_readNumber 4 0 0 _ 0 [some (.ref 212), some (.int (nI (w_mo k))), none, none] [] s
  have hn8 := hT.2.1
  have lp : ∀ f j u1, (∀ a, a < j → w_tk t n k p a = true) → u1 212 30 = nI (p + j) → u1 212 31 = -1 → u1 212 32 = nI (w_pv t p j) → r_G s u1 → 3 < j + f → s_W G mX12_readNumber 4 0 0 (c_V (fun s1 => s1 212 30 = nI (p + (w_c t n k p)) ∧ s1 212 31 = (if (w_c t n k p) = 0 then nI p else -1) ∧ s1 212 32 = nI (w_pv t p (w_c t n k p)) ∧ r_G s s1)) 23 [some (.ref 212), some (.int (nI (w_mo k))), some (.int (nI p)), some (.int (bI (decide (j = 0 ∨ 0 < w_pv t p j))))] [] u1 := by
    intro f
    induction f with
    | zero =>
      intro j u1 htk h30 h31 h32 hg hme
      exfalso
      have q := htk 3 (by omega)
      rw [w_tk_3 (by omega)] at q
      cases q
    | succ f ih =>
      intro j u1 htk h30 h31 h32 hg hme
      have hjc : j ≤ w_c t n k p := by
        apply Classical.byContradiction
        intro z
        have q := htk (w_c t n k p) (by omega)
        rw [(w_c_ok (t := t) (n := n) (k := k) (p := p)).2.1] at q
        cases q
      have hj3 := (w_c_ok (t := t) (n := n) (k := k) (p := p)).2.2
      have hv9 := w_pv_999 hjc
      have hmo := w_mo_le k
      have hT1 := v_T_G hT hg
      have hpn := w_c_le (t := t) (k := k) hp
      have fin : w_tk t n k p j = false → s_W G mX12_readNumber 4 0 0 (c_V (fun s1 => s1 212 30 = nI (p + (w_c t n k p)) ∧ s1 212 31 = (if (w_c t n k p) = 0 then nI p else -1) ∧ s1 212 32 = nI (w_pv t p (w_c t n k p)) ∧ r_G s s1)) 94 [some (.ref 212), some (.int (nI (w_mo k))), some (.int (nI p)), some (.int (bI (decide (j = 0 ∨ 0 < w_pv t p j))))] [] u1 := by
        intro htf
        have hce : w_c t n k p = j := w_c_eq htk htf
        refine r_aload_n dX12_readNumber_94 rfl rfl ?_
        refine s_getI dX12_readNumber_95 fX12_292 lysX12 rfl h31 ?_
        refine r_if_ge (tgt := 117) dX12_readNumber_98 (by decide) (fun c98 => ?_) (fun c98 => ?_)
        · exact absurd c98 (by decide)
        · refine r_aload_n dX12_readNumber_101 rfl rfl ?_
          refine s_getI dX12_readNumber_102 fX12_282 lysX12 rfl h30 ?_
          refine r_iload_n dX12_readNumber_105 rfl rfl ?_
          refine n_cne (tgt := 117) dX12_readNumber_106 (by decide) (by omega) (by omega) (fun c106 => ?_) (fun c106 => ?_)
          · refine s_vret dX12_readNumber_117 rfl ?_
            first
              | (have hz : j = 0 := by omega
                 refine ⟨rfl, ?_, ?_, ?_, r_G_tr hg (r_G_put hs5 hf5 (by omega))⟩
                 · rw [hce, hs5, pk_un (by decide)]; exact h30
                 · rw [hce, if_pos hz, hs5, pk_us, hz, Nat.add_zero]
                 · rw [hce, hs5, pk_un (by decide)]; exact h32)
              | (have hz : j ≠ 0 := by omega
                 refine ⟨rfl, by rw [hce]; exact h30, by rw [hce, if_neg hz]; exact h31, by rw [hce]; exact h32, hg⟩)
          · refine r_aload_n dX12_readNumber_109 rfl rfl ?_
            refine r_aload_n dX12_readNumber_110 rfl rfl ?_
            refine s_getI dX12_readNumber_111 fX12_282 lysX12 rfl h30 ?_
            refine a_put dX12_readNumber_114 gX12_292 lysX12 rfl rfl rfl (fun s5 hs5 hf5 => ?_)
            refine s_vret dX12_readNumber_117 rfl ?_
            first
              | (have hz : j = 0 := by omega
                 refine ⟨rfl, ?_, ?_, ?_, r_G_tr hg (r_G_put hs5 hf5 (by omega))⟩
                 · rw [hce, hs5, pk_un (by decide)]; exact h30
                 · rw [hce, if_pos hz, hs5, pk_us, hz, Nat.add_zero]
                 · rw [hce, hs5, pk_un (by decide)]; exact h32)
              | (have hz : j ≠ 0 := by omega
                 refine ⟨rfl, by rw [hce]; exact h30, by rw [hce, if_neg hz]; exact h31, by rw [hce]; exact h32, hg⟩)
      refine r_iload_n dX12_readNumber_23 rfl rfl ?_
      refine b_ifeq (tgt := 94) dX12_readNumber_24 (by decide) (fun c24 => ?_) (fun c24 => ?_)
      · first
          | exact fin (decide_eq_false (fun z => (of_decide_eq_false c24) (by omega)))
          | exact fin (decide_eq_false (fun z => (of_decide_eq_false c31) ⟨z.1, z.2.1, z.2.2.1⟩))
          | exact fin (decide_eq_false (fun z => by omega))
      · refine r_aload_n dX12_readNumber_27 rfl rfl ?_
        refine s_V0I mX12_isDigit dX12_readNumber_28 okX12_isDigit lX12_295 npX12_isDigit lysX12 rfl (by decide) (by decide) (by decide) (Nat.le_of_ble_eq_true rfl) (Nat.le_of_ble_eq_true rfl) (c_isDigit hT1 h30 (by omega)) (fun x s1 hq => ?_)
        obtain ⟨e9, rfl⟩ := hq
        replace e9 := e9.symm
        subst e9
        refine b_ifeq (tgt := 94) dX12_readNumber_31 (by decide) (fun c31 => ?_) (fun c31 => ?_)
        · first
            | exact fin (decide_eq_false (fun z => (of_decide_eq_false c24) (by omega)))
            | exact fin (decide_eq_false (fun z => (of_decide_eq_false c31) ⟨z.1, z.2.1, z.2.2.1⟩))
            | exact fin (decide_eq_false (fun z => by omega))
        · have hd := of_decide_eq_true c31
          have hc9 := hT.2.2 _ hd.1
          refine r_aload_n dX12_readNumber_34 rfl rfl ?_
          refine s_getI dX12_readNumber_35 fX12_282 lysX12 rfl h30 ?_
          refine r_iload_n dX12_readNumber_38 rfl rfl ?_
          refine r_iload_n dX12_readNumber_39 rfl rfl ?_
          refine n_add dX12_readNumber_40 ?_
          refine n_cge (tgt := 94) dX12_readNumber_41 (by decide) (by omega) (by omega) (fun c41 => ?_) (fun c41 => ?_)
          · first
              | exact fin (decide_eq_false (fun z => (of_decide_eq_false c24) (by omega)))
              | exact fin (decide_eq_false (fun z => (of_decide_eq_false c31) ⟨z.1, z.2.1, z.2.2.1⟩))
              | exact fin (decide_eq_false (fun z => by omega))
          · refine r_aload_n dX12_readNumber_44 rfl rfl ?_
            refine n_bip 10 dX12_readNumber_45 (by decide) ?_
            refine r_aload_n dX12_readNumber_47 rfl rfl ?_
            refine s_getI dX12_readNumber_48 fX12_289 lysX12 rfl h32 ?_
            refine n_mul dX12_readNumber_51 ?_
            refine r_aload_n dX12_readNumber_52 rfl rfl ?_
            refine s_getR dX12_readNumber_53 fX12_16 lysX12 rfl ?_
            refine r_aload_n dX12_readNumber_56 rfl rfl ?_
            refine s_getI dX12_readNumber_57 fX12_282 lysX12 rfl h30 ?_
            refine a_cld dX12_readNumber_60 rfl (by omega) (by decide) (hT1.1.2 (p + j) (by omega)) ?_
            refine n_add dX12_readNumber_61 ?_
            refine n_bip 48 dX12_readNumber_62 (by decide) ?_
            refine n_sub dX12_readNumber_64 (by omega) ?_
            refine a_put dX12_readNumber_65 gX12_289 lysX12 rfl rfl rfl (fun s4 hs4 hf4 => ?_)
            refine r_aload_n dX12_readNumber_68 rfl rfl ?_
            refine r_dup dX12_readNumber_69 rfl ?_
            refine s_getI dX12_readNumber_70 fX12_282 lysX12 rfl (show s4 212 30 = nI (p + j) by rw [hs4, pk_un (by decide)]; exact h30) ?_
            refine n_const 1 dX12_readNumber_73 (by decide) ?_
            refine n_add dX12_readNumber_74 ?_
            refine a_put dX12_readNumber_75 gX12_282 lysX12 rfl rfl rfl (fun s5 hs5 hf5 => ?_)
            refine r_aload_n dX12_readNumber_78 rfl rfl ?_
            refine s_getI dX12_readNumber_79 fX12_289 lysX12 rfl (show s5 212 32 = nI (10 * w_pv t p j + t (p + j) - 48) by rw [hs5, pk_un (by decide), hs4, pk_us]) ?_
            refine n_ifle (tgt := 89) dX12_readNumber_82 (by decide) (by omega) (fun c82 => ?_) (fun c82 => ?_)
            · refine n_const 0 dX12_readNumber_89 (by decide) ?_
              refine r_istore_n dX12_readNumber_90 rfl (by decide) rfl ?_
              refine r_goto (tgt := 23) dX12_readNumber_91 (by decide) ?_
              have hvn : w_pv t p (j + 1) = 10 * w_pv t p j + t (p + j) - 48 := by show 10 * w_pv t p j + (t (p + j) - 48) = _; omega
              have htk2 : ∀ a, a < j + 1 → w_tk t n k p a = true := fun a ha => by
                by_cases e : a = j
                · subst e
                  refine decide_eq_true ⟨hd.1, hd.2.1, hd.2.2, ?_⟩
                  have := of_decide_eq_true c24
                  omega
                · exact htk a (by omega)
              have q9 := ih (j + 1) s5 htk2 (by rw [hs5, pk_us, Nat.add_assoc]) (by rw [hs5, pk_un (by decide), hs4, pk_un (by decide)]; exact h31) (by rw [hs5, pk_un (by decide), hs4, pk_us, hvn]) (r_G_tr hg (r_G_tr (r_G_put hs4 hf4 (by omega)) (r_G_put hs5 hf5 (by omega)))) (by omega)
              first
                | (rw [show decide (j + 1 = 0 ∨ 0 < w_pv t p (j + 1)) = true from decide_eq_true (by omega)] at q9
                   exact q9)
                | (rw [show decide (j + 1 = 0 ∨ 0 < w_pv t p (j + 1)) = false from decide_eq_false (by omega)] at q9
                   exact q9)
            · refine n_const 1 dX12_readNumber_85 (by decide) ?_
              refine r_goto (tgt := 90) dX12_readNumber_86 (by decide) ?_
              refine r_istore_n dX12_readNumber_90 rfl (by decide) rfl ?_
              refine r_goto (tgt := 23) dX12_readNumber_91 (by decide) ?_
              have hvn : w_pv t p (j + 1) = 10 * w_pv t p j + t (p + j) - 48 := by show 10 * w_pv t p j + (t (p + j) - 48) = _; omega
              have htk2 : ∀ a, a < j + 1 → w_tk t n k p a = true := fun a ha => by
                by_cases e : a = j
                · subst e
                  refine decide_eq_true ⟨hd.1, hd.2.1, hd.2.2, ?_⟩
                  have := of_decide_eq_true c24
                  omega
                · exact htk a (by omega)
              have q9 := ih (j + 1) s5 htk2 (by rw [hs5, pk_us, Nat.add_assoc]) (by rw [hs5, pk_un (by decide), hs4, pk_un (by decide)]; exact h31) (by rw [hs5, pk_un (by decide), hs4, pk_us, hvn]) (r_G_tr hg (r_G_tr (r_G_put hs4 hf4 (by omega)) (r_G_put hs5 hf5 (by omega)))) (by omega)
              first
                | (rw [show decide (j + 1 = 0 ∨ 0 < w_pv t p (j + 1)) = true from decide_eq_true (by omega)] at q9
                   exact q9)
                | (rw [show decide (j + 1 = 0 ∨ 0 < w_pv t p (j + 1)) = false from decide_eq_false (by omega)] at q9
                   exact q9)
  refine r_aload_n dX12_readNumber_0 rfl rfl ?_
  refine n_const 0 dX12_readNumber_1 (by decide) ?_
  refine a_put dX12_readNumber_2 gX12_289 lysX12 rfl rfl rfl (fun s2 hs2 hf2 => ?_)
  refine r_aload_n dX12_readNumber_5 rfl rfl ?_
  refine s_getI dX12_readNumber_6 fX12_282 lysX12 rfl (show s2 212 30 = nI p by rw [hs2, pk_un (by decide)]; exact h30) ?_
  refine r_istore_n dX12_readNumber_9 rfl (by decide) rfl ?_
  refine r_aload_n dX12_readNumber_10 rfl rfl ?_
  refine s_getI dX12_readNumber_11 fX12_292 lysX12 rfl (show s2 212 31 = -1 by rw [hs2, pk_un (by decide)]; exact h31) ?_
  refine r_if_ge (tgt := 21) dX12_readNumber_14 (by decide) (fun c14 => ?_) (fun c14 => ?_)
  · exact absurd c14 (by decide)
  · refine n_const 1 dX12_readNumber_17 (by decide) ?_
    refine r_goto (tgt := 22) dX12_readNumber_18 (by decide) ?_
    refine r_istore_n dX12_readNumber_22 rfl (by decide) rfl ?_
    exact lp 5 0 s2 (fun a ha => absurd ha (by omega)) (by rw [hs2, pk_un (by decide), Nat.add_zero]; exact h30) (by rw [hs2, pk_un (by decide)]; exact h31) (by rw [hs2, pk_us]; rfl) (r_G_put hs2 hf2 (by omega)) (by omega)
set_option maxRecDepth 20000 in
set_option maxHeartbeats 1000000 in
theorem c_readNumD {G : q_G} {s : s_T} {q : Nat} {m : Int32} (h31 : s 212 31 = nI q) (hq : q ≤ 80) : s_W G mX12_readNumber 4 0 0 (c_V (fun s1 => s1 212 30 = s 212 30 ∧ s1 212 31 = nI q ∧ r_G s s1)) 0 (q_ent mX12_readNumber [.ref 212, .int m]) [] s := by
  show s_W G mX12_readNumber 4 0 0 _ 0 [some (.ref 212), some (.int m), none, none] [] s
  refine r_aload_n dX12_readNumber_0 rfl rfl ?_
  refine n_const 0 dX12_readNumber_1 (by decide) ?_
  refine a_put dX12_readNumber_2 gX12_289 lysX12 rfl rfl rfl (fun s2 hs2 hf2 => ?_)
  refine r_aload_n dX12_readNumber_5 rfl rfl ?_
  refine s_getI dX12_readNumber_6 fX12_282 lysX12 rfl rfl ?_
  refine r_istore_n dX12_readNumber_9 rfl (by decide) rfl ?_
  refine r_aload_n dX12_readNumber_10 rfl rfl ?_
  refine s_getI dX12_readNumber_11 fX12_292 lysX12 rfl (show s2 212 31 = nI q by rw [hs2, pk_un (by decide)]; exact h31) ?_
  refine r_if_ge (tgt := 21) dX12_readNumber_14 (by decide) (fun c14 => ?_) (fun c14 => ?_)
  · refine n_const 0 dX12_readNumber_21 (by decide) ?_
    refine r_istore_n dX12_readNumber_22 rfl (by decide) rfl ?_
    refine r_iload_n dX12_readNumber_23 rfl rfl ?_
    refine n_ifeq (tgt := 94) dX12_readNumber_24 (by decide) (by omega) (fun c24 => ?_) (fun c24 => ?_)
    · refine r_aload_n dX12_readNumber_94 rfl rfl ?_
      refine s_getI dX12_readNumber_95 fX12_292 lysX12 rfl (show s2 212 31 = nI q by rw [hs2, pk_un (by decide)]; exact h31) ?_
      refine r_if_ge (tgt := 117) dX12_readNumber_98 (by decide) (fun c98 => ?_) (fun c98 => ?_)
      · refine s_vret dX12_readNumber_117 rfl ?_
        exact ⟨rfl, by rw [hs2, pk_un (by decide)], by rw [hs2, pk_un (by decide)]; exact h31, r_G_put hs2 hf2 (by omega)⟩
      · exact absurd (nI_nn (by omega)) c98
    · exact absurd c24 (by decide)
  · exact absurd (nI_nn (by omega)) c14
set_option maxRecDepth 20000 in
set_option maxHeartbeats 1000000 in
theorem c_takesL {G : q_G} {s : s_T} {t : Nat → Nat} {n p c : Nat} (hT : v_T t n s) (h30 : s 212 30 = nI p) (h31 : s 212 31 = -1) (hp : p ≤ n) (hc : c < 65536) : s_W G mX12_takes 1 0 0 (c_I (fun y9 s1 => y9 = bI (decide (p < n ∧ t p = c)) ∧ s1 212 30 = nI (if p < n ∧ t p = c then p + 1 else p) ∧ s1 212 31 = s 212 31 ∧ s1 212 32 = s 212 32 ∧ r_G s s1)) 0 (q_ent mX12_takes [.ref 212, .int (nI c)]) [] s := by
  show s_W G mX12_takes 1 0 0 _ 0 [some (.ref 212), some (.int (nI c)), none] [] s
  have hn8 := hT.2.1
  refine r_aload_n dX12_takes_0 rfl rfl ?_
  refine s_getI dX12_takes_1 fX12_292 lysX12 rfl h31 ?_
  refine r_if_ge (tgt := 35) dX12_takes_4 (by decide) (fun c4 => ?_) (fun c4 => ?_)
  · exact absurd c4 (by decide)
  · refine r_aload_n dX12_takes_7 rfl rfl ?_
    refine s_getI dX12_takes_8 fX12_282 lysX12 rfl h30 ?_
    refine r_aload_n dX12_takes_11 rfl rfl ?_
    refine s_getI dX12_takes_12 fX12_279 lysX12 rfl hT.1.1 ?_
    refine n_cge (tgt := 35) dX12_takes_15 (by decide) (by omega) (by omega) (fun c15 => ?_) (fun c15 => ?_)
    · refine n_const 0 dX12_takes_35 (by decide) ?_
      refine r_istore_n dX12_takes_36 rfl (by decide) rfl ?_
      refine r_aload_n dX12_takes_37 rfl rfl ?_
      refine r_dup dX12_takes_38 rfl ?_
      refine s_getI dX12_takes_39 fX12_282 lysX12 rfl h30 ?_
      refine r_iload_n dX12_takes_42 rfl rfl ?_
      refine n_ifeq (tgt := 50) dX12_takes_43 (by decide) (by omega) (fun c43 => ?_) (fun c43 => ?_)
      · refine n_const 0 dX12_takes_50 (by decide) ?_
        refine n_add dX12_takes_51 ?_
        refine a_put dX12_takes_52 gX12_282 lysX12 rfl rfl rfl (fun s5 hs5 hf5 => ?_)
        refine r_iload_n dX12_takes_55 rfl rfl ?_
        refine s_iret dX12_takes_56 rfl rfl ?_
        first
          | (have hy : p < n ∧ t p = c := ⟨c15, c28⟩
             refine ⟨_, rfl, by rw [show decide (p < n ∧ t p = c) = true from decide_eq_true hy]; rfl, by rw [hs5, pk_us, if_pos hy], by rw [hs5, pk_un (by decide)], by rw [hs5, pk_un (by decide)], r_G_put hs5 hf5 (by omega)⟩)
          | (have hy : ¬ (p < n ∧ t p = c) := by omega
             refine ⟨_, rfl, by rw [show decide (p < n ∧ t p = c) = false from decide_eq_false hy]; rfl, by rw [hs5, pk_us, if_neg hy]; rfl, by rw [hs5, pk_un (by decide)], by rw [hs5, pk_un (by decide)], r_G_put hs5 hf5 (by omega)⟩)
      · exact absurd c43 (by decide)
    · have hc9 := hT.2.2 p c15
      refine r_aload_n dX12_takes_18 rfl rfl ?_
      refine s_getR dX12_takes_19 fX12_16 lysX12 rfl ?_
      refine r_aload_n dX12_takes_22 rfl rfl ?_
      refine s_getI dX12_takes_23 fX12_282 lysX12 rfl h30 ?_
      refine a_cld dX12_takes_26 rfl (by omega) (by decide) (hT.1.2 p (by omega)) ?_
      refine r_iload_n dX12_takes_27 rfl rfl ?_
      refine n_cne (tgt := 35) dX12_takes_28 (by decide) (by omega) (by omega) (fun c28 => ?_) (fun c28 => ?_)
      · refine n_const 0 dX12_takes_35 (by decide) ?_
        refine r_istore_n dX12_takes_36 rfl (by decide) rfl ?_
        refine r_aload_n dX12_takes_37 rfl rfl ?_
        refine r_dup dX12_takes_38 rfl ?_
        refine s_getI dX12_takes_39 fX12_282 lysX12 rfl h30 ?_
        refine r_iload_n dX12_takes_42 rfl rfl ?_
        refine n_ifeq (tgt := 50) dX12_takes_43 (by decide) (by omega) (fun c43 => ?_) (fun c43 => ?_)
        · refine n_const 0 dX12_takes_50 (by decide) ?_
          refine n_add dX12_takes_51 ?_
          refine a_put dX12_takes_52 gX12_282 lysX12 rfl rfl rfl (fun s5 hs5 hf5 => ?_)
          refine r_iload_n dX12_takes_55 rfl rfl ?_
          refine s_iret dX12_takes_56 rfl rfl ?_
          first
            | (have hy : p < n ∧ t p = c := ⟨c15, c28⟩
               refine ⟨_, rfl, by rw [show decide (p < n ∧ t p = c) = true from decide_eq_true hy]; rfl, by rw [hs5, pk_us, if_pos hy], by rw [hs5, pk_un (by decide)], by rw [hs5, pk_un (by decide)], r_G_put hs5 hf5 (by omega)⟩)
            | (have hy : ¬ (p < n ∧ t p = c) := by omega
               refine ⟨_, rfl, by rw [show decide (p < n ∧ t p = c) = false from decide_eq_false hy]; rfl, by rw [hs5, pk_us, if_neg hy]; rfl, by rw [hs5, pk_un (by decide)], by rw [hs5, pk_un (by decide)], r_G_put hs5 hf5 (by omega)⟩)
        · exact absurd c43 (by decide)
      · refine n_const 1 dX12_takes_31 (by decide) ?_
        refine r_goto (tgt := 36) dX12_takes_32 (by decide) ?_
        refine r_istore_n dX12_takes_36 rfl (by decide) rfl ?_
        refine r_aload_n dX12_takes_37 rfl rfl ?_
        refine r_dup dX12_takes_38 rfl ?_
        refine s_getI dX12_takes_39 fX12_282 lysX12 rfl h30 ?_
        refine r_iload_n dX12_takes_42 rfl rfl ?_
        refine n_ifeq (tgt := 50) dX12_takes_43 (by decide) (by omega) (fun c43 => ?_) (fun c43 => ?_)
        · exact absurd c43 (by decide)
        · refine n_const 1 dX12_takes_46 (by decide) ?_
          refine r_goto (tgt := 51) dX12_takes_47 (by decide) ?_
          refine n_add dX12_takes_51 ?_
          refine a_put dX12_takes_52 gX12_282 lysX12 rfl rfl rfl (fun s5 hs5 hf5 => ?_)
          refine r_iload_n dX12_takes_55 rfl rfl ?_
          refine s_iret dX12_takes_56 rfl rfl ?_
          first
            | (have hy : p < n ∧ t p = c := ⟨c15, c28⟩
               refine ⟨_, rfl, by rw [show decide (p < n ∧ t p = c) = true from decide_eq_true hy]; rfl, by rw [hs5, pk_us, if_pos hy], by rw [hs5, pk_un (by decide)], by rw [hs5, pk_un (by decide)], r_G_put hs5 hf5 (by omega)⟩)
            | (have hy : ¬ (p < n ∧ t p = c) := by omega
               refine ⟨_, rfl, by rw [show decide (p < n ∧ t p = c) = false from decide_eq_false hy]; rfl, by rw [hs5, pk_us, if_neg hy]; rfl, by rw [hs5, pk_un (by decide)], by rw [hs5, pk_un (by decide)], r_G_put hs5 hf5 (by omega)⟩)
set_option maxRecDepth 20000 in
set_option maxHeartbeats 1000000 in
theorem c_takesD {G : q_G} {s : s_T} {q p : Nat} {c : Int32} (h31 : s 212 31 = nI q) (hq : q ≤ 80) (h30 : s 212 30 = nI p) : s_W G mX12_takes 1 0 0 (c_I (fun y9 s1 => y9 = bI false ∧ s1 212 30 = nI p ∧ s1 212 31 = s 212 31 ∧ s1 212 32 = s 212 32 ∧ r_G s s1)) 0 (q_ent mX12_takes [.ref 212, .int c]) [] s := by
  show s_W G mX12_takes 1 0 0 _ 0 [some (.ref 212), some (.int c), none] [] s
  refine r_aload_n dX12_takes_0 rfl rfl ?_
  refine s_getI dX12_takes_1 fX12_292 lysX12 rfl h31 ?_
  refine r_if_ge (tgt := 35) dX12_takes_4 (by decide) (fun c4 => ?_) (fun c4 => ?_)
  · refine n_const 0 dX12_takes_35 (by decide) ?_
    refine r_istore_n dX12_takes_36 rfl (by decide) rfl ?_
    refine r_aload_n dX12_takes_37 rfl rfl ?_
    refine r_dup dX12_takes_38 rfl ?_
    refine s_getI dX12_takes_39 fX12_282 lysX12 rfl h30 ?_
    refine r_iload_n dX12_takes_42 rfl rfl ?_
    refine n_ifeq (tgt := 50) dX12_takes_43 (by decide) (by omega) (fun c43 => ?_) (fun c43 => ?_)
    · refine n_const 0 dX12_takes_50 (by decide) ?_
      refine n_add dX12_takes_51 ?_
      refine a_put dX12_takes_52 gX12_282 lysX12 rfl rfl rfl (fun s5 hs5 hf5 => ?_)
      refine r_iload_n dX12_takes_55 rfl rfl ?_
      refine s_iret dX12_takes_56 rfl rfl ?_
      exact ⟨_, rfl, rfl, by rw [hs5, pk_us]; rfl, by rw [hs5, pk_un (by decide)], by rw [hs5, pk_un (by decide)], r_G_put hs5 hf5 (by omega)⟩
    · exact absurd c43 (by decide)
  · exact absurd (nI_nn (by omega)) c4
set_option maxRecDepth 20000 in
set_option maxHeartbeats 1000000 in
theorem c_wantsL {G : q_G} {s : s_T} {t : Nat → Nat} {n p c : Nat} (hT : v_T t n s) (h30 : s 212 30 = nI p) (h31 : s 212 31 = -1) (hp : p ≤ n) (hc : c < 65536) : s_W G mX12_wants 2 0 0 (c_V (fun s1 => s1 212 30 = nI (if p < n ∧ t p = c then p + 1 else p) ∧ s1 212 31 = (if p < n ∧ t p = c then -1 else nI p) ∧ r_G s s1)) 0 (q_ent mX12_wants [.ref 212, .int (nI c)]) [] s := by
  show s_W G mX12_wants 2 0 0 _ 0 [some (.ref 212), some (.int (nI c))] [] s
  have hn8 := hT.2.1
  refine r_aload_n dX12_wants_0 rfl rfl ?_
  refine r_iload_n dX12_wants_1 rfl rfl ?_
  refine s_V1I mX12_takes dX12_wants_2 okX12_takes lX12_298 npX12_takes lysX12 rfl (by decide) (by decide) (by decide) (Nat.le_of_ble_eq_true rfl) (Nat.le_of_ble_eq_true rfl) (c_takesL hT h30 h31 hp hc) (fun x s1 hq => ?_)
  obtain ⟨rfl, e30, e31, e32, hg⟩ := hq
  refine b_ifne (tgt := 23) dX12_wants_5 (by decide) (fun c5 => ?_) (fun c5 => ?_)
  · refine s_vret dX12_wants_23 rfl ?_
    first
      | (have hy := of_decide_eq_true c5
         exact ⟨rfl, e30, by rw [if_pos hy, e31]; exact h31, hg⟩)
      | (have hy := of_decide_eq_false c5
         exact ⟨rfl, by rw [hs5, pk_un (by decide)]; exact e30, by rw [hs5, pk_us, if_neg hy], r_G_tr hg (r_G_put hs5 hf5 (by omega))⟩)
  · refine r_aload_n dX12_wants_8 rfl rfl ?_
    refine s_getI dX12_wants_9 fX12_292 lysX12 rfl (e31.trans h31) ?_
    refine r_if_ge (tgt := 23) dX12_wants_12 (by decide) (fun c12 => ?_) (fun c12 => ?_)
    · exact absurd c12 (by decide)
    · refine r_aload_n dX12_wants_15 rfl rfl ?_
      refine r_aload_n dX12_wants_16 rfl rfl ?_
      refine s_getI dX12_wants_17 fX12_282 lysX12 rfl (show s1 212 30 = nI p by rw [e30, if_neg (of_decide_eq_false c5)]) ?_
      refine a_put dX12_wants_20 gX12_292 lysX12 rfl rfl rfl (fun s5 hs5 hf5 => ?_)
      refine s_vret dX12_wants_23 rfl ?_
      first
        | (have hy := of_decide_eq_true c5
           exact ⟨rfl, e30, by rw [if_pos hy, e31]; exact h31, hg⟩)
        | (have hy := of_decide_eq_false c5
           exact ⟨rfl, by rw [hs5, pk_un (by decide)]; exact e30, by rw [hs5, pk_us, if_neg hy], r_G_tr hg (r_G_put hs5 hf5 (by omega))⟩)
set_option maxRecDepth 20000 in
set_option maxHeartbeats 1000000 in
theorem c_wantsD {G : q_G} {s : s_T} {q p : Nat} {c : Int32} (h31 : s 212 31 = nI q) (hq : q ≤ 80) (h30 : s 212 30 = nI p) : s_W G mX12_wants 2 0 0 (c_V (fun s1 => s1 212 30 = nI p ∧ s1 212 31 = nI q ∧ r_G s s1)) 0 (q_ent mX12_wants [.ref 212, .int c]) [] s := by
  show s_W G mX12_wants 2 0 0 _ 0 [some (.ref 212), some (.int c)] [] s
  refine r_aload_n dX12_wants_0 rfl rfl ?_
  refine r_iload_n dX12_wants_1 rfl rfl ?_
  refine s_V1I mX12_takes dX12_wants_2 okX12_takes lX12_298 npX12_takes lysX12 rfl (by decide) (by decide) (by decide) (Nat.le_of_ble_eq_true rfl) (Nat.le_of_ble_eq_true rfl) (c_takesD h31 hq h30) (fun x s1 hq9 => ?_)
  obtain ⟨rfl, e30, e31, e32, hg⟩ := hq9
  refine b_ifne (tgt := 23) dX12_wants_5 (by decide) (fun c5 => ?_) (fun c5 => ?_)
  · exact absurd c5 (by decide)
  · refine r_aload_n dX12_wants_8 rfl rfl ?_
    refine s_getI dX12_wants_9 fX12_292 lysX12 rfl (e31.trans h31) ?_
    refine r_if_ge (tgt := 23) dX12_wants_12 (by decide) (fun c12 => ?_) (fun c12 => ?_)
    · refine s_vret dX12_wants_23 rfl ?_
      exact ⟨rfl, e30, e31.trans h31, hg⟩
    · exact absurd (nI_nn (by omega)) c12
/-- the text has the fault -/
def v_D (t : Nat → Nat) (n : Nat) (s : s_T) : Prop := ∃ q p, w_fl t n 81 0 0 = some q ∧ q ≤ 80 ∧ s 212 31 = nI q ∧ s 212 30 = nI p
/-- before the i-th number, of kind k -/
def v_S (t : Nat → Nat) (n i k : Nat) (Q : Prop) (s : s_T) : Prop := (∃ p f, w_sq t n i = some (k, p) ∧ s 212 30 = nI p ∧ s 212 31 = -1 ∧ n < p + f ∧ w_fl t n f k p = w_fl t n 81 0 0 ∧ Q) ∨ v_D t n s
/-- behind it -/
def v_N (t : Nat → Nat) (n i k : Nat) (Q : Prop) (s : s_T) : Prop := (∃ p f, w_sq t n i = some (k, p) ∧ w_c t n k p ≠ 0 ∧ s 212 30 = nI (p + w_c t n k p) ∧ s 212 31 = -1 ∧ s 212 32 = nI (w_va t n i) ∧ n < p + f ∧ w_fl t n f k p = w_fl t n 81 0 0 ∧ Q) ∨ v_D t n s
theorem c_rdNum {G : q_G} {s : s_T} {t : Nat → Nat} {n i k : Nat} {Q : Prop} (hT : v_T t n s) (hS : v_S t n i k Q s) : s_W G mX12_readNumber 4 0 0 (c_V (fun s1 => v_N t n i k Q s1 ∧ r_G s s1)) 0 (q_ent mX12_readNumber [.ref 212, .int (nI (w_mo k))]) [] s := by
  rcases hS with ⟨p, f, hq, h30, h31, hf, hX, hQ⟩ | ⟨q, p, hX, hq, h31, h30⟩
  · have hk := w_sq_ok i k p hq
    refine s_mono (Nat.le_refl _) (Nat.le_refl _) (Nat.le_refl _) ?_ (c_readNumL (k := k) hT h30 h31 hk.2.2.2)
    rintro r s1 ⟨rfl, e30, e31, e32, hg⟩
    refine ⟨rfl, ?_, hg⟩
    obtain ⟨f', rfl⟩ : ∃ f', f = f' + 1 := ⟨f - 1, by omega⟩
    by_cases e : w_c t n k p = 0
    · right
      rw [if_pos e] at e31
      rw [w_fl_0 e] at hX
      exact ⟨p, _, hX.symm, by have := hT.2.1; omega, e31, e30⟩
    · left
      rw [if_neg e] at e31
      exact ⟨p, f' + 1, hq, e, e30, e31, by rw [w_va_e hq]; exact e32, hf, hX, hQ⟩
  · refine s_mono (Nat.le_refl _) (Nat.le_refl _) (Nat.le_refl _) ?_ (c_readNumD h31 hq)
    rintro r s1 ⟨rfl, e30, e31, hg⟩
    exact ⟨rfl, Or.inr ⟨q, p, hX, hq, e31, e30.trans h30⟩, hg⟩
theorem c_wnt {G : q_G} {s : s_T} {t : Nat → Nat} {n i k k' c : Nat} {Q : Prop} (hT : v_T t n s) (hN : v_N t n i k Q s) (hc : c < 65536) (hnx : ∀ x, w_nx k x = if x = c then some k' else none) (hk5 : k ≠ 5) : s_W G mX12_wants 2 0 0 (c_V (fun s1 => v_S t n (i + 1) k' Q s1 ∧ r_G s s1)) 0 (q_ent mX12_wants [.ref 212, .int (nI c)]) [] s := by
  have hn8 := hT.2.1
  rcases hN with ⟨p, f, hq, hc0, h30, h31, h32, hf, hX, hQ⟩ | ⟨q, p, hX, hq, h31, h30⟩
  · have hk := w_sq_ok i k p hq
    have hcl := w_c_le (t := t) (k := k) hk.2.2.2
    refine s_mono (Nat.le_refl _) (Nat.le_refl _) (Nat.le_refl _) ?_ (c_wantsL hT h30 h31 hcl hc)
    rintro r s1 ⟨rfl, e30, e31, hg⟩
    refine ⟨rfl, ?_, hg⟩
    obtain ⟨f', rfl⟩ : ∃ f', f = f' + 1 := ⟨f - 1, by omega⟩
    by_cases e : p + w_c t n k p < n ∧ t (p + w_c t n k p) = c
    · left
      rw [if_pos e] at e30 e31
      have h3 : w_nx k (t (p + w_c t n k p)) = some k' := by rw [hnx, if_pos e.2]
      rw [w_fl_s hc0 e.1 h3] at hX
      exact ⟨_, f', w_sq_s hq hc0 e.1 h3, e30, e31, by omega, hX, hQ⟩
    · right
      rw [if_neg e] at e30 e31
      refine ⟨p + w_c t n k p, _, ?_, by omega, e31, e30⟩
      rw [← hX]
      by_cases e2 : p + w_c t n k p < n
      · exact w_fl_b hc0 e2 (by rw [hnx, if_neg (fun z => e ⟨e2, z⟩)])
      · exact w_fl_e hc0 e2 hk5
  · refine s_mono (Nat.le_refl _) (Nat.le_refl _) (Nat.le_refl _) ?_ (c_wantsD h31 hq h30)
    rintro r s1 ⟨rfl, e30, e31, hg⟩
    exact ⟨rfl, Or.inr ⟨q, p, hX, hq, e31, e30⟩, hg⟩
theorem v_N_Q {t : Nat → Nat} {n i k : Nat} {Q : Prop} {s : s_T} (h : v_N t n i k Q s) : v_N t n i k (Q ∧ s 212 32 = nI (w_va t n i)) s := by
  rcases h with ⟨p, f, a, b, c, d, e, g, h, i⟩ | h
  · exact Or.inl ⟨p, f, a, b, c, d, e, g, h, i, e⟩
  · exact Or.inr h
set_option maxRecDepth 20000 in
set_option maxHeartbeats 1000000 in
theorem c_cannot {G : q_G} {s : s_T} {a b c : Int32} (h33 : s 212 33 = -1) : s_W G mX12_cannot 1 0 0 (c_V (fun s1 => s1 212 33 = a ∧ s1 212 34 = b ∧ s1 212 35 = c ∧ (∀ j, j < 33 ∨ 36 ≤ j → s1 212 j = s 212 j) ∧ ∀ k, k ≠ 212 → s1 k = s k)) 0 (q_ent mX12_cannot [.ref 212, .int a, .int b, .int c]) [] s := by
  show s_W G mX12_cannot 1 0 0 _ 0 [some (.ref 212), some (.int a), some (.int b), some (.int c)] [] s
  refine r_aload_n dX12_cannot_0 rfl rfl ?_
  refine s_getI dX12_cannot_1 fX12_302 lysX12 rfl h33 ?_
  refine r_iconst (v := -1) dX12_cannot_4 (by decide) ?_
  refine r_icmp_ne (tgt := 23) dX12_cannot_5 (by decide) (fun c5 => ?_) (fun c5 => ?_)
  · exact absurd rfl c5
  · refine r_aload_n dX12_cannot_8 rfl rfl ?_
    refine r_iload_n dX12_cannot_9 rfl rfl ?_
    refine a_put dX12_cannot_10 gX12_302 lysX12 rfl rfl rfl (fun s2 hs2 hf2 => ?_)
    refine r_aload_n dX12_cannot_13 rfl rfl ?_
    refine r_iload_n dX12_cannot_14 rfl rfl ?_
    refine a_put dX12_cannot_15 gX12_305 lysX12 rfl rfl rfl (fun s3 hs3 hf3 => ?_)
    refine r_aload_n dX12_cannot_18 rfl rfl ?_
    refine r_iload_n dX12_cannot_19 rfl rfl ?_
    refine a_put dX12_cannot_20 gX12_308 lysX12 rfl rfl rfl (fun s4 hs4 hf4 => ?_)
    refine s_vret dX12_cannot_23 rfl ?_
    exact ⟨rfl, by rw [hs4, pk_un (by decide), hs3, pk_un (by decide), hs2, pk_us], by rw [hs4, pk_un (by decide), hs3, pk_us], by rw [hs4, pk_us], fun j hj => by rw [hs4, pk_un (by omega), hs3, pk_un (by omega), hs2, pk_un (by omega)], fun k hk => by rw [hf4 k (by omega), hf3 k (by omega), hf2 k (by omega)]⟩
set_option maxRecDepth 20000 in
set_option maxHeartbeats 1000000 in
theorem c_cannotN {G : q_G} {s : s_T} {a b c : Int32} {w : Nat} (h33 : s 212 33 = nI w) (hw : w ≤ 80) : s_W G mX12_cannot 1 0 0 (c_V (fun s1 => s1 = s)) 0 (q_ent mX12_cannot [.ref 212, .int a, .int b, .int c]) [] s := by
  show s_W G mX12_cannot 1 0 0 _ 0 [some (.ref 212), some (.int a), some (.int b), some (.int c)] [] s
  refine r_aload_n dX12_cannot_0 rfl rfl ?_
  refine s_getI dX12_cannot_1 fX12_302 lysX12 rfl h33 ?_
  refine r_iconst (v := -1) dX12_cannot_4 (by decide) ?_
  refine r_icmp_ne (tgt := 23) dX12_cannot_5 (by decide) (fun c5 => ?_) (fun c5 => ?_)
  · refine s_vret dX12_cannot_23 rfl ?_
    exact ⟨rfl, rfl⟩
  · exact absurd c5 (nI_m1 (by omega))
end
