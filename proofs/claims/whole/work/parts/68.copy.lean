/-! ===== append; rows that are copied ===== -/
section CPY
variable {G : q_G} {M : q_M} {d C S : Nat} {P : q_R → s_T → Prop} {pc : Nat} {L : List (Option Value)} {st : List Value} {s : s_T}
theorem n_copy {idx k0 k1 n0' n1' a b n : Nat} (dc : decode M.2.2.1 pc = .ok (.invokestatic idx, 3)) (hw : Cond.methodLink M.1 idx arraycopyName ∈ q_tw) (hd : 1 ≤ d) (hr : (st.map fun v => v.category).sum ≤ 40)
    (hl0 : q_lay k0 = .inl (0, n0', none)) (hl1 : q_lay k1 = .inl (0, n1', none)) (h1 : a + n ≤ n0') (h2 : b + n ≤ n1') (h3 : n0' < 2 ^ 31) (h4 : n1' < 2 ^ 31)
    (K : ∀ s', (∀ j, s' k1 j = if b ≤ j ∧ j < b + n then s k0 (a + (j - b)) else s k1 j) → s_fr k1 (k1 + 1) s s' → s_W G M d C S P (pc + 3) L st s') : s_W G M d C S P pc L (.int (nI n) :: .int (nI b) :: .ref k1 :: .int (nI a) :: .ref k0 :: st) s := by
  have nn : ∀ q : Nat, q < 2 ^ 31 → ¬ nI q < 0 := fun q hq z => by rw [Int32.lt_iff_toInt_lt, nI_toInt hq, i_0] at z; omega
  refine s_copy dc hw kwC_native kwC_static kwC_ini hd hr hl0 hl1 (nn _ (by omega)) (nn _ (by omega)) (nn _ (by omega)) ?_ ?_ ?_
  · rw [nI_clamp (by omega), nI_clamp (by omega)]; exact h1
  · rw [nI_clamp (by omega), nI_clamp (by omega)]; exact h2
  · rw [nI_clamp (by omega), nI_clamp (by omega), nI_clamp (by omega)]
    exact K _ (fun j => by rw [va_up_s]; rfl) (fun q hq => va_up_n (by omega))
end CPY
set_option maxRecDepth 20000 in
set_option maxHeartbeats 1000000 in
theorem c_copyRow {G : q_G} {s : s_T} {k0 k1 n : Nat} (h0 : q_lay k0 = .inl (0, n, none)) (h1 : q_lay k1 = .inl (0, n, none)) (hn : n < 2 ^ 31) : s_W G mX11_copyRow 2 0 0 (c_V (fun s1 => (∀ j, j < n → s1 k1 j = s k0 j) ∧ s_fr k1 (k1 + 1) s s1)) 0 (q_ent mX11_copyRow [.ref k0, .ref k1]) [] s := by
  show s_W G mX11_copyRow 2 0 0 _ 0 [some (.ref k0), some (.ref k1)] [] s
  refine r_aload_n dX11_copyRow_0 rfl rfl ?_
  refine n_const 0 dX11_copyRow_1 (by decide) ?_
  refine r_aload_n dX11_copyRow_2 rfl rfl ?_
  refine n_const 0 dX11_copyRow_3 (by decide) ?_
  refine r_aload_n dX11_copyRow_4 rfl rfl ?_
  refine s_alen dX11_copyRow_5 h0 (by decide) rfl ?_
  refine r_aload_n dX11_copyRow_6 rfl rfl ?_
  refine s_alen dX11_copyRow_7 h1 (by decide) rfl ?_
  refine r_mmin dX11_copyRow_8 kwM_X11_min kwM_static_min kwM_ini kwM_code_min (by decide) (Nat.le_of_ble_eq_true rfl) ?_
  have e : ∀ x : Int32, (if x < x then x else x) = x := fun x => by split <;> rfl
  rw [e]
  refine n_copy (n := n) dX11_copyRow_11 kwC_X11 (by decide) (Nat.le_of_ble_eq_true rfl) h0 h1 (by omega) (by omega) hn hn (fun s1 hs1 hf1 => ?_)
  refine s_vret dX11_copyRow_14 rfl ⟨rfl, fun j hj => ?_, hf1⟩
  rw [hs1, if_pos (by omega), Nat.sub_zero, Nat.zero_add]
set_option maxRecDepth 20000 in
set_option maxHeartbeats 1000000 in
theorem c_copyRows {G : q_G} {s : s_T} {k0 k1 b0 b1 R n : Nat} (h0 : q_lay k0 = .inl (5, R, some b0)) (h1 : q_lay k1 = .inl (5, R, some b1)) (r0 : ∀ i, i < R → q_lay (b0 + i) = .inl (0, n, none)) (r1 : ∀ i, i < R → q_lay (b1 + i) = .inl (0, n, none)) (hR : R < 2 ^ 31) (hn : n < 2 ^ 31) (hd : b0 + R ≤ b1 ∨ b1 + R ≤ b0) : s_W G mX11_copyRows 3 0 0 (c_V (fun s1 => (∀ i j, i < R → j < n → s1 (b1 + i) j = s (b0 + i) j) ∧ s_fr b1 (b1 + R) s s1)) 0 (q_ent mX11_copyRows [.ref k0, .ref k1]) [] s := by
  show s_W G mX11_copyRows 3 0 0 _ 0 [some (.ref k0), some (.ref k1), none, none] [] s
  have lp : ∀ f e s1, (∀ i j, i < e → j < n → s1 (b1 + i) j = s (b0 + i) j) → s_fr b1 (b1 + R) s s1 → e ≤ R → R < e + f → s_W G mX11_copyRows 3 0 0 (c_V (fun s1 => (∀ i j, i < R → j < n → s1 (b1 + i) j = s (b0 + i) j) ∧ s_fr b1 (b1 + R) s s1)) 10 [some (.ref k0), some (.ref k1), some (.int (nI R)), some (.int (nI e))] [] s1 := by
    intro f
    induction f with
    | zero =>
      intro e s1 hA hf he hme
      exact absurd hme (by omega)
    | succ f ih =>
      intro e s1 hA hf he hme
      refine r_iload_n dX11_copyRows_10 rfl rfl ?_
      refine r_iload_n dX11_copyRows_11 rfl rfl ?_
      refine n_cge (tgt := 30) dX11_copyRows_12 (by decide) (by omega) (by omega) (fun c12 => ?_) (fun c12 => ?_)
      · refine s_vret dX11_copyRows_30 rfl ?_
        exact ⟨rfl, fun i j hi hj => hA i j (by omega) hj, hf⟩
      · refine r_aload_n dX11_copyRows_15 rfl rfl ?_
        refine r_iload_n dX11_copyRows_16 rfl rfl ?_
        refine a_ald dX11_copyRows_17 h0 c12 (by omega) ?_
        refine r_aload_n dX11_copyRows_18 rfl rfl ?_
        refine r_iload_n dX11_copyRows_19 rfl rfl ?_
        refine a_ald dX11_copyRows_20 h1 c12 (by omega) ?_
        refine s_S2V mX11_copyRow dX11_copyRows_21 okX11_copyRow lX11_435 npX11_copyRow (by decide) (by decide) (by decide) (Nat.le_of_ble_eq_true rfl) (Nat.le_of_ble_eq_true rfl) (c_copyRow (r0 _ c12) (r1 _ c12) hn) (fun s2 hq => ?_)
        obtain ⟨hq1, hq2⟩ := hq
        refine n_inc dX11_copyRows_24 rfl (n_i1 _) (by decide) rfl ?_
        refine r_goto (tgt := 10) dX11_copyRows_27 (by decide) ?_
        refine ih (e + 1) s2 (fun i j hi hj => ?_) (s_fr_tr hf (s_fr_w hq2 (by omega) (by omega))) (by omega) (by omega)
        by_cases e9 : i = e
        · subst e9
          rw [hq1 j hj, hf (b0 + i) (by omega)]
        · rw [hq2 (b1 + i) (by omega)]
          exact hA i j (by omega) hj
  refine r_aload_n dX11_copyRows_0 rfl rfl ?_
  refine s_alen dX11_copyRows_1 h0 (by decide) rfl ?_
  refine r_aload_n dX11_copyRows_2 rfl rfl ?_
  refine s_alen dX11_copyRows_3 h1 (by decide) rfl ?_
  refine r_mmin dX11_copyRows_4 kwM_X11_min kwM_static_min kwM_ini kwM_code_min (by decide) (Nat.le_of_ble_eq_true rfl) ?_
  have e : ∀ x : Int32, (if x < x then x else x) = x := fun x => by split <;> rfl
  rw [e]
  refine r_istore_n dX11_copyRows_7 rfl (by decide) rfl ?_
  refine n_const 0 dX11_copyRows_8 (by decide) ?_
  refine r_istore_n dX11_copyRows_9 rfl (by decide) rfl ?_
  exact lp (R + 1) 0 s (fun i j hi _ => absurd hi (by omega)) s_fr_rf (by omega) (by omega)
