section
/-! ===== the class: the best row of a machine ===== -/
abbrev a_L : Type := List (List Nat)
abbrev a_B : Type := Option (Nat × List Nat)
theorem c_computeS {G : q_G} {s : s_T} {X : x_T} {op : Nat → Bool} {o h : Nat} (ho : isX7 o) (hh : isX10 h) (hC : c_R X s o) (hw : x_wf X) (hop : ∀ m, m < 4 → s (h + 5) m = bI (op m)) (hH : s h 9 = -1 ∧ ∃ hu, hu ≤ 50000 ∧ s h 10 = nI hu) : s_W G mX10_compute 3 0 0 (c_I (fun y9 s1 => y9 = bI (x_sp X op none 0).isSome ∧ (∀ v, x_sp X op none 0 = some v → s1 h 6 = nI v) ∧ s1 (h + 5) = s (h + 5) ∧ s1 h 9 = s h 9 ∧ s1 h 10 = s h 10 ∧ s_fr h (h + 8) s s1)) 0 (q_ent mX10_compute [.ref h, .ref o]) [] s := by
  obtain ⟨h0, hu, h1, h2⟩ := hH
  refine s_mono (Nat.le_refl _) (Nat.le_refl _) (Nat.le_refl _) ?_ (c_compute (op := op) (hk := none) ho hh hC hw hop ⟨h0, h2⟩ h1 (fun q e => by cases e))
  rintro r s1 ⟨x, rfl, K, r, t, rk, sd, rfl, M, hT, T, -, -, h6, -, -, -, hf⟩
  refine ⟨_, rfl, by rw [x_sp_n (hu := hu) (hu' := 0) hw], fun v hv => ?_, hf⟩
  rw [← x_sp_n (hu := hu) hw] at hv
  by_cases hA : ∀ k, k < X 1 → K k = true
  · rw [x_sp_all hw T M hA] at hv
    cases hv
    rw [h6, x_ke_all hA]
  · obtain ⟨k, hk⟩ := Classical.not_forall.mp hA
    have g1 : k < X 1 := Classical.byContradiction (fun z => hk (fun q => absurd q z))
    have g2 : K k = false := by cases hK : K k with | false => rfl | true => exact absurd (fun _ => hK) hk
    rw [x_sp_not hw T M g1 g2] at hv
    cases hv
/-- a shop whose row m is another one -/
theorem c_R_rw2 {X X' : x_T} {s s1 : s_T} {o m : Nat} (hC : c_R X s o) (hw : x_wf X) (hm : m < 4) (h : x_pr X X' m) (hf : ∀ k, o ≤ k → k < o + 41 → k ≠ o + 37 + m → s1 k = s k) (hr : ∀ i, i < X (179 + m) → s1 (o + 37 + m) i = nI (X' (183 + 5 * m + i))) : c_R X' s1 o := by
  have hs := x_sz hw
  have h5 := (x_mn hw hm).2
  have lo : ∀ k, k < 183 → X' k = X k := fun k hk => x_pr_lo h hk
  obtain ⟨⟨a1, a2⟩, b, c, d, e, f⟩ := hC
  refine ⟨⟨by rw [hf o (by omega) (by omega) (by omega), lo 0 (by omega)]; exact a1, by rw [hf o (by omega) (by omega) (by omega), lo 1 (by omega)]; exact a2⟩, fun j hj => ?_, fun k hk => ?_, fun x y hx hy => ?_, fun m' hm' => ?_, fun m' hm' => ?_⟩
  · rw [lo 0 (by omega)] at hj
    have hjb := x_jb hw hj
    rw [hf (o + 2 + j) (by omega) (by omega) (by omega), hf (o + 7) (by omega) (by omega) (by omega), hf (o + 9 + j) (by omega) (by omega) (by omega), lo (2 + j) (by omega), lo (7 + j) (by omega), lo (12 + j) (by omega), lo (17 + j) (by omega)]
    obtain ⟨b1, b2, b3, b4, b5⟩ := b j hj
    exact ⟨b1, b2, b3, b4, fun i hi => by rw [lo (22 + 4 * j + i) (by omega)]; exact b5 i hi⟩
  · rw [lo 1 (by omega)] at hk
    rw [hf (o + 14) (by omega) (by omega) (by omega), hf (o + 15) (by omega) (by omega) (by omega), hf (o + 16) (by omega) (by omega) (by omega), hf (o + 17) (by omega) (by omega) (by omega), hf (o + 18) (by omega) (by omega) (by omega), lo (42 + k) (by omega), lo (62 + k) (by omega), lo (82 + k) (by omega), lo (102 + k) (by omega), lo (122 + k) (by omega)]
    exact c k hk
  · rw [hf (o + 20 + x) (by omega) (by omega) (by omega), lo (142 + 3 * x + y) (by omega)]; exact d x y hx hy
  · have hb := x_mn hw hm'
    rw [hf (o + 23) (by omega) (by omega) (by omega), hf (o + 25 + m') (by omega) (by omega) (by omega), hf (o + 30 + m') (by omega) (by omega) (by omega), lo (151 + m') (by omega)]
    obtain ⟨e1, e2⟩ := e m' hm'
    exact ⟨e1, fun i hi => by rw [lo (155 + 3 * m' + i) (by omega), lo (167 + 3 * m' + i) (by omega)]; exact e2 i hi⟩
  · have hb := x_mn hw hm'
    rw [hf (o + 35) (by omega) (by omega) (by omega), lo (179 + m') (by omega)]
    obtain ⟨f1, f2⟩ := f m' hm'
    refine ⟨f1, fun p hp => ?_⟩
    by_cases e9 : m' = m
    · subst e9; exact hr p hp
    · rw [hf (o + 37 + m') (by omega) (by omega) (by omega), x_pr_ot h h5 e9 (by omega)]; exact f2 p hp
theorem x_pt_eq {X : x_T} {m : Nat} {l : List Nat} {k : Nat} (hk : k < 183) : x_pt X m l k = X k := x_pt_lo hk
theorem a_ch_n {n : Nat} {l : List Nat} (h : a_ch n [l] = true) : (a_nx n (x_gt l)).isSome = false := by
  have h : (a_nx n (x_gt l)).isNone = true := h
  cases hn : a_nx n (x_gt l) with
  | none => rfl
  | some p => rw [hn] at h; cases h
theorem a_ch_c {n : Nat} {l l' : List Nat} {r : List (List Nat)} (h : a_ch n (l :: l' :: r) = true) : (a_nx n (x_gt l)).isSome = true ∧ (∀ i, i < n → (a_nx n (x_gt l)).getD (x_gt l) i = x_gt l' i) ∧ a_ch n (l' :: r) = true := by
  have h : (a_nb n l l' && a_ch n (l' :: r)) = true := h
  rw [Bool.and_eq_true] at h
  obtain ⟨h1, h2⟩ := h
  unfold a_nb at h1
  cases hn : a_nx n (x_gt l) with
  | none => rw [hn] at h1; cases h1
  | some p =>
    rw [hn] at h1
    exact ⟨rfl, of_decide_eq_true h1, h2⟩
set_option maxRecDepth 20000 in
set_option maxHeartbeats 1000000 in
theorem c_explore {G : q_G} {s : s_T} {X : x_T} {op : Nat → Bool} {o h m : Nat} (ho : isX7 o) (hh : isX10 h) (hCX : c_R X s o) (hw : x_wf X) (hm : m < 4) (hop : ∀ k, k < 4 → s (h + 5) k = bI (op k)) (hH : s h 9 = -1 ∧ ∃ hu, hu ≤ 50000 ∧ s h 10 = nI hu) (hh8 : h = 132 ∨ h = 152) (ha : x_ac X (va_up op m true)) : s_W G mX6_explore 4 0 0 (c_V (fun s1 => s1 147 0 = nI (x_bv X (va_up op m false) m) ∧ (∀ i, i < X (179 + m) → s1 148 i = nI (x_so X m (x_gt (x_br2 X (va_up op m false) m) i))) ∧ c_R X s1 o ∧ (∀ k, k < 4 → s1 (h + 5) k = bI ((va_up op m false) k)) ∧ s1 h 9 = s h 9 ∧ s1 h 10 = s h 10 ∧ (∀ k, ¬ (h ≤ k ∧ k < h + 8) → k ≠ 147 → k ≠ 148 → k ≠ 149 → k ≠ o + 37 + m → s1 k = s k))) 0 (q_ent mX6_explore [.ref 147, .ref o, .ref h, .int (nI m)]) [] s := by
  show s_W G mX6_explore 4 0 0 _ 0 [some (.ref 147), some (.ref o), some (.ref h), some (.int (nI m)), none, none, none, none, none, none] [] s
  have hs := x_sz hw
  have h5 := (x_mn hw hm).2
  have ho2 := o7_le ho
  have hl : q_lay (o + 34 + 3 + m) = .inl (0, 5, none) := X5_rows_row (X7_orders ho) hm
  have ha2 : x_ac X (va_up (va_up op m false) m true) := by
    rw [show va_up (va_up op m false) m true = va_up op m true by funext k; by_cases e : k = m; (· subst e; rw [va_up_s, va_up_s]); rw [va_up_n e, va_up_n e, va_up_n e]]
    exact ha
  obtain ⟨fl, hfl⟩ : ∃ fl, x_sp X (va_up op m true) none 0 = some fl := ⟨_, x_sp_ac hw ha⟩
  have hflb := x_sp_bd hw hfl
  have hfl2 : x_sp X (va_up (va_up op m false) m true) none 0 = some fl := by
    rw [show va_up (va_up op m false) m true = va_up op m true by funext k; by_cases e : k = m; (· subst e; rw [va_up_s, va_up_s]); rw [va_up_n e, va_up_n e, va_up_n e]]
    exact hfl
  have fin : ∀ b (L8 : Option Value) (L9 : Option Value) u1, (∀ c, b = some c → u1 147 0 = nI c.1 ∧ ∀ i, i < X (179 + m) → u1 148 i = nI (x_so X m (x_gt c.2 i))) → b = x_bo X (va_up op m false) m → (∀ j, j < 5 → u1 149 j = s (o + 37 + m) j) → (∀ k, k < 4 → u1 (h + 5) k = bI ((va_up op m false) k)) → u1 h 9 = s h 9 → u1 h 10 = s h 10 → (∀ k, ¬ (h ≤ k ∧ k < h + 8) → k ≠ 147 → k ≠ 148 → k ≠ 149 → k ≠ o + 37 + m → u1 k = s k) → s_W G mX6_explore 4 0 0 (c_V (fun s1 => s1 147 0 = nI (x_bv X (va_up op m false) m) ∧ (∀ i, i < X (179 + m) → s1 148 i = nI (x_so X m (x_gt (x_br2 X (va_up op m false) m) i))) ∧ c_R X s1 o ∧ (∀ k, k < 4 → s1 (h + 5) k = bI ((va_up op m false) k)) ∧ s1 h 9 = s h 9 ∧ s1 h 10 = s h 10 ∧ (∀ k, ¬ (h ≤ k ∧ k < h + 8) → k ≠ 147 → k ≠ 148 → k ≠ 149 → k ≠ o + 37 + m → s1 k = s k))) 166 [some (.ref 147), some (.ref o), some (.ref h), some (.int (nI m)), some (.int (nI fl)), some (.ref (o + 34 + 3 + m)), some (.int (nI (X (179 + m)))), some (.int (bI b.isSome)), L8, L9] [] u1 := by
    intro b L8 L9 u1 hb hB h149 hop9 h9 h10 hf
    refine r_aload_n dX6_explore_166 rfl rfl ?_
    refine s_getR dX6_explore_167 fX6_15 lysX6 rfl ?_
    refine r_aload dX6_explore_170 rfl ?_
    refine s_N2V mX11_copyRow dX6_explore_172 okX11_copyRow lX6_47 npX11_copyRow (by decide) (by decide) (by decide) (Nat.le_of_ble_eq_true rfl) (Nat.le_of_ble_eq_true rfl) (c_copyRow rfl hl (by decide)) (fun s1 hq => ?_)
    obtain ⟨hcp, hfc⟩ := hq
    refine s_vret dX6_explore_175 rfl ?_
    have hfin := x_b_ok hw hm (op := (va_up op m false)) va_up_s ha2
    rw [hfin.1] at hB
    obtain ⟨b1, b2⟩ := hb _ hB
    refine ⟨rfl, ?_, fun i hi => ?_, ?_, fun k hk => ?_, ?_, ?_, fun k h1 h2 h3 h4 h5 => ?_⟩
    · rw [hfc 147 (by omega)]; exact b1
    · rw [hfc 148 (by omega)]; exact b2 i hi
    · refine c_R_rw2 hCX hw hm (x_pr_rf hw hm) (fun k h1 h2 h3 => by rw [hfc k (by omega)]; exact hf k (by omega) (by omega) (by omega) (by omega) h3) (fun i hi => ?_)
      rw [hcp i (by omega), h149 i (by omega)]
      have := cl_ord hCX hm hi
      exact this
    · rw [hfc (h + 5) (by omega)]; exact hop9 k hk
    · rw [hfc h (by omega)]; exact h9
    · rw [hfc h (by omega)]; exact h10
    · rw [hfc k (by omega)]; exact hf k h1 h2 h3 h4 h5
  have lp : ∀ f (l : List Nat) (r : a_L) (b : a_B) tn (L9 : Option Value) u1, c_R (x_pt X m l) u1 o → (∀ i, i < X (179 + m) → u1 (o + 34 + 3 + m) i = nI (x_so X m (x_gt l i))) → x_fd X (va_up op m false) m (l :: r) b = x_bo X (va_up op m false) m → (∀ c, b = some c → u1 147 0 = nI c.1 ∧ ∀ i, i < X (179 + m) → u1 148 i = nI (x_so X m (x_gt c.2 i))) → (∀ c, b = some c → c.1 ≤ 1400) → a_ch (X (179 + m)) (l :: r) = true → (∀ l' ∈ l :: r, x_vl (X (179 + m)) l') → (l :: r).length + tn ≤ 120 → (∀ j, j < 5 → u1 149 j = s (o + 37 + m) j) → (∀ k, k < 4 → u1 (h + 5) k = bI ((va_up op m false) k)) → u1 h 9 = s h 9 → u1 h 10 = s h 10 → (∀ k, ¬ (h ≤ k ∧ k < h + 8) → k ≠ 147 → k ≠ 148 → k ≠ 149 → k ≠ o + 37 + m → u1 k = s k) → 120 < tn + f → s_W G mX6_explore 4 0 0 (c_V (fun s1 => s1 147 0 = nI (x_bv X (va_up op m false) m) ∧ (∀ i, i < X (179 + m) → s1 148 i = nI (x_so X m (x_gt (x_br2 X (va_up op m false) m) i))) ∧ c_R X s1 o ∧ (∀ k, k < 4 → s1 (h + 5) k = bI ((va_up op m false) k)) ∧ s1 h 9 = s h 9 ∧ s1 h 10 = s h 10 ∧ (∀ k, ¬ (h ≤ k ∧ k < h + 8) → k ≠ 147 → k ≠ 148 → k ≠ 149 → k ≠ o + 37 + m → s1 k = s k))) 70 [some (.ref 147), some (.ref o), some (.ref h), some (.int (nI m)), some (.int (nI fl)), some (.ref (o + 34 + 3 + m)), some (.int (nI (X (179 + m)))), some (.int (bI b.isSome)), some (.int (nI tn)), L9] [] u1 := by
    intro f
    induction f with
    | zero =>
      intro l r b tn L9 u1 hC hrow hX hb hbd hch hvl hln h149 hop9 h9 h10 hf hme
      exact absurd hme (by omega)
    | succ f ih =>
      intro l r b tn L9 u1 hC hrow hX hb hbd hch hvl hln h149 hop9 h9 h10 hf hme
      have rest : ∀ (b : a_B) (L9 : Option Value) u1, (∀ i, i < X (179 + m) → u1 (o + 34 + 3 + m) i = nI (x_so X m (x_gt l i))) → x_fd X (va_up op m false) m r b = x_bo X (va_up op m false) m → (∀ c, b = some c → u1 147 0 = nI c.1 ∧ ∀ i, i < X (179 + m) → u1 148 i = nI (x_so X m (x_gt c.2 i))) → (∀ c, b = some c → c.1 ≤ 1400) → (∀ j, j < 5 → u1 149 j = s (o + 37 + m) j) → (∀ k, k < 4 → u1 (h + 5) k = bI ((va_up op m false) k)) → u1 h 9 = s h 9 → u1 h 10 = s h 10 → (∀ k, ¬ (h ≤ k ∧ k < h + 8) → k ≠ 147 → k ≠ 148 → k ≠ 149 → k ≠ o + 37 + m → u1 k = s k) → s_W G mX6_explore 4 0 0 (c_V (fun s1 => s1 147 0 = nI (x_bv X (va_up op m false) m) ∧ (∀ i, i < X (179 + m) → s1 148 i = nI (x_so X m (x_gt (x_br2 X (va_up op m false) m) i))) ∧ c_R X s1 o ∧ (∀ k, k < 4 → s1 (h + 5) k = bI ((va_up op m false) k)) ∧ s1 h 9 = s h 9 ∧ s1 h 10 = s h 10 ∧ (∀ k, ¬ (h ≤ k ∧ k < h + 8) → k ≠ 147 → k ≠ 148 → k ≠ 149 → k ≠ o + 37 + m → s1 k = s k))) 121 [some (.ref 147), some (.ref o), some (.ref h), some (.int (nI m)), some (.int (nI fl)), some (.ref (o + 34 + 3 + m)), some (.int (nI (X (179 + m)))), some (.int (bI b.isSome)), some (.int (nI tn)), L9] [] u1 := by
        intro b L9 u1 hrow hX hb hbd h149 hop9 h9 h10 hf
        cases b with
        | none =>
          refine r_iload dX6_explore_121 rfl ?_
          refine b_ifeq (tgt := 139) dX6_explore_123 (by decide) (fun c123 => ?_) (fun c123 => ?_)
          · refine n_const 0 dX6_explore_139 (by decide) ?_
            refine r_istore dX6_explore_140 (by decide) rfl ?_
            refine r_iload dX6_explore_142 rfl ?_
            refine n_ifne (tgt := 166) dX6_explore_144 (by decide) (by omega) (fun c144 => ?_) (fun c144 => ?_)
            · exact absurd c144 (by decide)
            · refine r_aload dX6_explore_147 rfl ?_
              refine r_iload dX6_explore_149 rfl ?_
              refine s_S2I mX6_advance dX6_explore_151 okX6_advance lX6_58 npX6_advance (by decide) (by decide) (by decide) (Nat.le_of_ble_eq_true rfl) (Nat.le_of_ble_eq_true rfl) (c_advance (p := x_gt l) (g := x_so X m) hl h5 hrow (hvl l (List.mem_cons_self)).2.1 (fun i hi => by have := (x_so_ok hw hm hi).1; omega) (fun i j hi hj => x_so_i hw hm hi hj)) (fun x s1 hq => ?_)
              obtain ⟨rfl, hrow2, hfa⟩ := hq
              refine b_ifne (tgt := 160) dX6_explore_154 (by decide) (fun c154 => ?_) (fun c154 => ?_)
              · refine n_inc dX6_explore_160 rfl (n_i1 _) (by decide) rfl ?_
                refine r_goto (tgt := 70) dX6_explore_163 (by decide) ?_
                cases r with
                | nil => exact absurd c154 (by rw [a_ch_n hch]; decide)
                | cons l' r =>
                  have hl' := hvl l' (List.mem_cons_of_mem _ (List.mem_cons_self))
                  refine ih l' r _ (tn + 1) _ s1 ?_ (fun i hi => by rw [hrow2 i hi, (a_ch_c hch).2.1 i hi]) hX (fun c9 hc9 => by rw [hfa 147 (by omega), hfa 148 (by omega)]; exact hb c9 hc9) hbd (a_ch_c hch).2.2 (fun l9 h9 => hvl l9 (List.mem_cons_of_mem _ h9)) (by have hln2 : r.length + 1 + 1 + tn ≤ 120 := hln; show r.length + 1 + (tn + 1) ≤ 120; omega) (fun j hj => by rw [hfa 149 (by omega)]; exact h149 j hj) (fun k hk => by rw [hfa (h + 5) (by omega)]; exact hop9 k hk) (by rw [hfa h (by omega)]; exact h9) (by rw [hfa h (by omega)]; exact h10) (fun k g1 g2 g3 g4 g5 => by rw [hfa k (by omega)]; exact hf k g1 g2 g3 g4 g5) (by omega)
                  refine c_R_rw2 hCX hw hm (x_pt_pr hw hm hl') (fun k g1 g2 g3 => by rw [hfa k (by omega)]; exact hf k (by omega) (by omega) (by omega) (by omega) g3) (fun i hi => ?_)
                  have q9 := hrow2 i hi
                  rw [(a_ch_c hch).2.1 i hi] at q9
                  rw [x_pt_i hi]
                  exact q9
              · refine r_goto (tgt := 166) dX6_explore_157 (by decide) ?_
                first
                  | (refine fin _ _ _ _ hb ?_ h149 hop9 h9 h10 hf
                     rw [← hX]
                     symm
                     exact x_fd_fl (fl := fl) (by omega) r (fun l' h' v hv => x_fl hw hm (hvl l' (List.mem_cons_of_mem _ h')) va_up_s hfl2 hv))
                  | (cases r with
                     | cons l' r => exact absurd c154 (by rw [(a_ch_c hch).1]; decide)
                     | nil => exact fin _ _ _ _ (fun c9 hc9 => by rw [hfa 147 (by omega), hfa 148 (by omega)]; exact hb c9 hc9) hX (fun j hj => by rw [hfa 149 (by omega)]; exact h149 j hj) (fun k hk => by rw [hfa (h + 5) (by omega)]; exact hop9 k hk) (by rw [hfa h (by omega)]; exact h9) (by rw [hfa h (by omega)]; exact h10) (fun k g1 g2 g3 g4 g5 => by rw [hfa k (by omega)]; exact hf k g1 g2 g3 g4 g5))
          · exact absurd c123 (by decide)
        | some c =>
          obtain ⟨b1, b2⟩ := hb c rfl
          have hcb := hbd c rfl
          refine r_iload dX6_explore_121 rfl ?_
          refine b_ifeq (tgt := 139) dX6_explore_123 (by decide) (fun c123 => ?_) (fun c123 => ?_)
          · exact absurd c123 (fun z9 => by cases z9)
          · refine r_aload_n dX6_explore_126 rfl rfl ?_
            refine s_getI dX6_explore_127 fX6_55 lysX6 rfl b1 ?_
            refine r_iload dX6_explore_130 rfl ?_
            refine n_cgt (tgt := 139) dX6_explore_132 (by decide) (by omega) (by omega) (fun c132 => ?_) (fun c132 => ?_)
            · refine n_const 0 dX6_explore_139 (by decide) ?_
              refine r_istore dX6_explore_140 (by decide) rfl ?_
              refine r_iload dX6_explore_142 rfl ?_
              refine n_ifne (tgt := 166) dX6_explore_144 (by decide) (by omega) (fun c144 => ?_) (fun c144 => ?_)
              · exact absurd c144 (by decide)
              · refine r_aload dX6_explore_147 rfl ?_
                refine r_iload dX6_explore_149 rfl ?_
                refine s_S2I mX6_advance dX6_explore_151 okX6_advance lX6_58 npX6_advance (by decide) (by decide) (by decide) (Nat.le_of_ble_eq_true rfl) (Nat.le_of_ble_eq_true rfl) (c_advance (p := x_gt l) (g := x_so X m) hl h5 hrow (hvl l (List.mem_cons_self)).2.1 (fun i hi => by have := (x_so_ok hw hm hi).1; omega) (fun i j hi hj => x_so_i hw hm hi hj)) (fun x s1 hq => ?_)
                obtain ⟨rfl, hrow2, hfa⟩ := hq
                refine b_ifne (tgt := 160) dX6_explore_154 (by decide) (fun c154 => ?_) (fun c154 => ?_)
                · refine n_inc dX6_explore_160 rfl (n_i1 _) (by decide) rfl ?_
                  refine r_goto (tgt := 70) dX6_explore_163 (by decide) ?_
                  cases r with
                  | nil => exact absurd c154 (by rw [a_ch_n hch]; decide)
                  | cons l' r =>
                    have hl' := hvl l' (List.mem_cons_of_mem _ (List.mem_cons_self))
                    refine ih l' r _ (tn + 1) _ s1 ?_ (fun i hi => by rw [hrow2 i hi, (a_ch_c hch).2.1 i hi]) hX (fun c9 hc9 => by rw [hfa 147 (by omega), hfa 148 (by omega)]; exact hb c9 hc9) hbd (a_ch_c hch).2.2 (fun l9 h9 => hvl l9 (List.mem_cons_of_mem _ h9)) (by have hln2 : r.length + 1 + 1 + tn ≤ 120 := hln; show r.length + 1 + (tn + 1) ≤ 120; omega) (fun j hj => by rw [hfa 149 (by omega)]; exact h149 j hj) (fun k hk => by rw [hfa (h + 5) (by omega)]; exact hop9 k hk) (by rw [hfa h (by omega)]; exact h9) (by rw [hfa h (by omega)]; exact h10) (fun k g1 g2 g3 g4 g5 => by rw [hfa k (by omega)]; exact hf k g1 g2 g3 g4 g5) (by omega)
                    refine c_R_rw2 hCX hw hm (x_pt_pr hw hm hl') (fun k g1 g2 g3 => by rw [hfa k (by omega)]; exact hf k (by omega) (by omega) (by omega) (by omega) g3) (fun i hi => ?_)
                    have q9 := hrow2 i hi
                    rw [(a_ch_c hch).2.1 i hi] at q9
                    rw [x_pt_i hi]
                    exact q9
                · refine r_goto (tgt := 166) dX6_explore_157 (by decide) ?_
                  first
                    | (refine fin _ _ _ _ hb ?_ h149 hop9 h9 h10 hf
                       rw [← hX]
                       symm
                       exact x_fd_fl (fl := fl) (by omega) r (fun l' h' v hv => x_fl hw hm (hvl l' (List.mem_cons_of_mem _ h')) va_up_s hfl2 hv))
                    | (cases r with
                       | cons l' r => exact absurd c154 (by rw [(a_ch_c hch).1]; decide)
                       | nil => exact fin _ _ _ _ (fun c9 hc9 => by rw [hfa 147 (by omega), hfa 148 (by omega)]; exact hb c9 hc9) hX (fun j hj => by rw [hfa 149 (by omega)]; exact h149 j hj) (fun k hk => by rw [hfa (h + 5) (by omega)]; exact hop9 k hk) (by rw [hfa h (by omega)]; exact h9) (by rw [hfa h (by omega)]; exact h10) (fun k g1 g2 g3 g4 g5 => by rw [hfa k (by omega)]; exact hf k g1 g2 g3 g4 g5))
            · refine n_const 1 dX6_explore_135 (by decide) ?_
              refine r_goto (tgt := 140) dX6_explore_136 (by decide) ?_
              refine r_istore dX6_explore_140 (by decide) rfl ?_
              refine r_iload dX6_explore_142 rfl ?_
              refine n_ifne (tgt := 166) dX6_explore_144 (by decide) (by omega) (fun c144 => ?_) (fun c144 => ?_)
              · first
                  | (refine fin _ _ _ _ hb ?_ h149 hop9 h9 h10 hf
                     rw [← hX]
                     symm
                     exact x_fd_fl (fl := fl) (by omega) r (fun l' h' v hv => x_fl hw hm (hvl l' (List.mem_cons_of_mem _ h')) va_up_s hfl2 hv))
                  | (cases r with
                     | cons l' r => exact absurd c154 (by rw [(a_ch_c hch).1]; decide)
                     | nil => exact fin _ _ _ _ (fun c9 hc9 => by rw [hfa 147 (by omega), hfa 148 (by omega)]; exact hb c9 hc9) hX (fun j hj => by rw [hfa 149 (by omega)]; exact h149 j hj) (fun k hk => by rw [hfa (h + 5) (by omega)]; exact hop9 k hk) (by rw [hfa h (by omega)]; exact h9) (by rw [hfa h (by omega)]; exact h10) (fun k g1 g2 g3 g4 g5 => by rw [hfa k (by omega)]; exact hf k g1 g2 g3 g4 g5))
              · exact absurd c144 (by decide)
      cases hv : x_sp (x_pt X m l) (va_up op m false) none 0 with
      | none =>
        cases b with
        | none =>
          refine r_iload dX6_explore_70 rfl ?_
          refine n_bip 120 dX6_explore_72 (by decide) ?_
          refine n_cge (tgt := 166) dX6_explore_74 (by decide) (by omega) (by omega) (fun c74 => ?_) (fun c74 => ?_)
          · exact absurd c74 (by have : 0 < (l :: r).length := Nat.succ_pos _; omega)
          · refine r_aload_n dX6_explore_77 rfl rfl ?_
            refine r_aload_n dX6_explore_78 rfl rfl ?_
            refine s_V1I mX10_compute dX6_explore_79 okX10_compute lX6_24 npX10_compute (layX10 hh) rfl (by decide) (by decide) (by decide) (Nat.le_of_ble_eq_true rfl) (Nat.le_of_ble_eq_true rfl) (c_computeS ho hh hC (x_pt_wf hw hm (hvl l (List.mem_cons_self))) hop9 ⟨h9.trans hH.1, by obtain ⟨hu, hu1, hu2⟩ := hH.2; exact ⟨hu, hu1, h10.trans hu2⟩⟩) (fun x s1 hq => ?_)
            obtain ⟨rfl, q2, q3, q4, q5, hf7⟩ := hq
            refine b_ifeq (tgt := 121) dX6_explore_82 (by decide) (fun c82 => ?_) (fun c82 => ?_)
            · exact rest none _ s1 (fun i hi => by rw [hf7 (o + 34 + 3 + m) (by omega)]; exact hrow i hi) (by rw [← hX]; show _ = x_fd _ _ _ r (x_fs _ _ _ _ _); rw [x_fs_n hv]) (fun c9 hc9 => by rw [hf7 147 (by omega), hf7 148 (by omega)]; exact hb c9 hc9) hbd (fun j hj => by rw [hf7 149 (by omega)]; exact h149 j hj) (fun k hk => by rw [q3]; exact hop9 k hk) (by rw [q4]; exact h9) (by rw [q5]; exact h10) (fun k g1 g2 g3 g4 g5 => by rw [hf7 k (by omega)]; exact hf k g1 g2 g3 g4 g5)
            · exact absurd c82 (by rw [hv]; decide)
        | some c =>
          have hcb := hbd c rfl
          refine r_iload dX6_explore_70 rfl ?_
          refine n_bip 120 dX6_explore_72 (by decide) ?_
          refine n_cge (tgt := 166) dX6_explore_74 (by decide) (by omega) (by omega) (fun c74 => ?_) (fun c74 => ?_)
          · exact absurd c74 (by have : 0 < (l :: r).length := Nat.succ_pos _; omega)
          · refine r_aload_n dX6_explore_77 rfl rfl ?_
            refine r_aload_n dX6_explore_78 rfl rfl ?_
            refine s_V1I mX10_compute dX6_explore_79 okX10_compute lX6_24 npX10_compute (layX10 hh) rfl (by decide) (by decide) (by decide) (Nat.le_of_ble_eq_true rfl) (Nat.le_of_ble_eq_true rfl) (c_computeS ho hh hC (x_pt_wf hw hm (hvl l (List.mem_cons_self))) hop9 ⟨h9.trans hH.1, by obtain ⟨hu, hu1, hu2⟩ := hH.2; exact ⟨hu, hu1, h10.trans hu2⟩⟩) (fun x s1 hq => ?_)
            obtain ⟨rfl, q2, q3, q4, q5, hf7⟩ := hq
            refine b_ifeq (tgt := 121) dX6_explore_82 (by decide) (fun c82 => ?_) (fun c82 => ?_)
            · exact rest (some c) _ s1 (fun i hi => by rw [hf7 (o + 34 + 3 + m) (by omega)]; exact hrow i hi) (by rw [← hX]; show _ = x_fd _ _ _ r (x_fs _ _ _ _ _); rw [x_fs_n hv]) (fun c9 hc9 => by rw [hf7 147 (by omega), hf7 148 (by omega)]; exact hb c9 hc9) hbd (fun j hj => by rw [hf7 149 (by omega)]; exact h149 j hj) (fun k hk => by rw [q3]; exact hop9 k hk) (by rw [q4]; exact h9) (by rw [q5]; exact h10) (fun k g1 g2 g3 g4 g5 => by rw [hf7 k (by omega)]; exact hf k g1 g2 g3 g4 g5)
            · exact absurd c82 (by rw [hv]; decide)
      | some v =>
        cases b with
        | none =>
          have hvb := x_sp_bd (x_pt_wf hw hm (hvl l (List.mem_cons_self))) hv
          refine r_iload dX6_explore_70 rfl ?_
          refine n_bip 120 dX6_explore_72 (by decide) ?_
          refine n_cge (tgt := 166) dX6_explore_74 (by decide) (by omega) (by omega) (fun c74 => ?_) (fun c74 => ?_)
          · exact absurd c74 (by have : 0 < (l :: r).length := Nat.succ_pos _; omega)
          · refine r_aload_n dX6_explore_77 rfl rfl ?_
            refine r_aload_n dX6_explore_78 rfl rfl ?_
            refine s_V1I mX10_compute dX6_explore_79 okX10_compute lX6_24 npX10_compute (layX10 hh) rfl (by decide) (by decide) (by decide) (Nat.le_of_ble_eq_true rfl) (Nat.le_of_ble_eq_true rfl) (c_computeS ho hh hC (x_pt_wf hw hm (hvl l (List.mem_cons_self))) hop9 ⟨h9.trans hH.1, by obtain ⟨hu, hu1, hu2⟩ := hH.2; exact ⟨hu, hu1, h10.trans hu2⟩⟩) (fun x s1 hq => ?_)
            obtain ⟨rfl, q2, q3, q4, q5, hf7⟩ := hq
            refine b_ifeq (tgt := 121) dX6_explore_82 (by decide) (fun c82 => ?_) (fun c82 => ?_)
            · exact absurd c82 (by rw [hv]; exact fun z9 => by cases z9)
            · refine r_iload dX6_explore_85 rfl ?_
              refine b_ifeq (tgt := 101) dX6_explore_87 (by decide) (fun c87 => ?_) (fun c87 => ?_)
              · refine n_const 1 dX6_explore_101 (by decide) ?_
                refine r_istore dX6_explore_102 (by decide) rfl ?_
                refine r_aload_n dX6_explore_104 rfl rfl ?_
                refine r_aload_n dX6_explore_105 rfl rfl ?_
                refine s_getI dX6_explore_106 fX6_28 (layX10 hh) rfl (q2 v hv) ?_
                refine a_put dX6_explore_109 gX6_55 lysX6 rfl rfl rfl (fun s2 hs2 hf2 => ?_)
                refine r_aload dX6_explore_112 rfl ?_
                refine r_aload_n dX6_explore_114 rfl rfl ?_
                refine s_getR dX6_explore_115 fX6_9 lysX6 rfl ?_
                refine s_N2V mX11_copyRow dX6_explore_118 okX11_copyRow lX6_47 npX11_copyRow (by decide) (by decide) (by decide) (Nat.le_of_ble_eq_true rfl) (Nat.le_of_ble_eq_true rfl) (c_copyRow hl rfl (by decide)) (fun s1 hq => ?_)
                obtain ⟨hcp, hfc⟩ := hq
                exact rest (some (v, l)) _ _ (fun i hi => by rw [hfc (o + 34 + 3 + m) (by omega), hf2 (o + 34 + 3 + m) (by omega), hf7 (o + 34 + 3 + m) (by omega)]; exact hrow i hi) (by rw [← hX]; show _ = x_fd _ _ _ r (x_fs _ _ _ _ _); rw [x_fs_f hv]) (fun c9 hc9 => by cases hc9; exact ⟨by rw [hfc 147 (by omega), hs2, pk_us], fun i hi => by rw [hcp i (by omega), hf2 (o + 34 + 3 + m) (by omega), hf7 (o + 34 + 3 + m) (by omega)]; exact hrow i hi⟩) (fun c9 hc9 => by cases hc9; exact hvb) (fun j hj => by rw [hfc 149 (by omega), hf2 149 (by omega), hf7 149 (by omega)]; exact h149 j hj) (fun k hk => by rw [hfc (h + 5) (by omega), hf2 (h + 5) (by omega), q3]; exact hop9 k hk) (by rw [hfc h (by omega), hf2 h (by omega), q4]; exact h9) (by rw [hfc h (by omega), hf2 h (by omega), q5]; exact h10) (fun k g1 g2 g3 g4 g5 => by rw [hfc k (by omega), hf2 k (by omega), hf7 k (by omega)]; exact hf k g1 g2 g3 g4 g5)
              · exact absurd c87 (by decide)
        | some c =>
          have hvb := x_sp_bd (x_pt_wf hw hm (hvl l (List.mem_cons_self))) hv
          have hcb := hbd c rfl
          refine r_iload dX6_explore_70 rfl ?_
          refine n_bip 120 dX6_explore_72 (by decide) ?_
          refine n_cge (tgt := 166) dX6_explore_74 (by decide) (by omega) (by omega) (fun c74 => ?_) (fun c74 => ?_)
          · exact absurd c74 (by have : 0 < (l :: r).length := Nat.succ_pos _; omega)
          · refine r_aload_n dX6_explore_77 rfl rfl ?_
            refine r_aload_n dX6_explore_78 rfl rfl ?_
            refine s_V1I mX10_compute dX6_explore_79 okX10_compute lX6_24 npX10_compute (layX10 hh) rfl (by decide) (by decide) (by decide) (Nat.le_of_ble_eq_true rfl) (Nat.le_of_ble_eq_true rfl) (c_computeS ho hh hC (x_pt_wf hw hm (hvl l (List.mem_cons_self))) hop9 ⟨h9.trans hH.1, by obtain ⟨hu, hu1, hu2⟩ := hH.2; exact ⟨hu, hu1, h10.trans hu2⟩⟩) (fun x s1 hq => ?_)
            obtain ⟨rfl, q2, q3, q4, q5, hf7⟩ := hq
            refine b_ifeq (tgt := 121) dX6_explore_82 (by decide) (fun c82 => ?_) (fun c82 => ?_)
            · exact absurd c82 (by rw [hv]; exact fun z9 => by cases z9)
            · refine r_iload dX6_explore_85 rfl ?_
              refine b_ifeq (tgt := 101) dX6_explore_87 (by decide) (fun c87 => ?_) (fun c87 => ?_)
              · exact absurd c87 (fun z9 => by cases z9)
              · refine r_aload_n dX6_explore_90 rfl rfl ?_
                refine s_getI dX6_explore_91 fX6_28 (layX10 hh) rfl (q2 v hv) ?_
                refine r_aload_n dX6_explore_94 rfl rfl ?_
                refine s_getI dX6_explore_95 fX6_55 lysX6 rfl (show s1 147 0 = nI c.1 by rw [hf7 147 (by omega)]; exact (hb c rfl).1) ?_
                refine n_cge (tgt := 121) dX6_explore_98 (by decide) (by omega) (by omega) (fun c98 => ?_) (fun c98 => ?_)
                · first
                    | exact rest (some c) _ s1 (fun i hi => by rw [hf7 (o + 34 + 3 + m) (by omega)]; exact hrow i hi) (by rw [← hX]; show _ = x_fd _ _ _ r (x_fs _ _ _ _ _); rw [x_fs_k hv (by omega)]) (fun c9 hc9 => by rw [hf7 147 (by omega), hf7 148 (by omega)]; exact hb c9 hc9) hbd (fun j hj => by rw [hf7 149 (by omega)]; exact h149 j hj) (fun k hk => by rw [q3]; exact hop9 k hk) (by rw [q4]; exact h9) (by rw [q5]; exact h10) (fun k g1 g2 g3 g4 g5 => by rw [hf7 k (by omega)]; exact hf k g1 g2 g3 g4 g5)
                    | exact rest (some (v, l)) _ _ (fun i hi => by rw [hfc (o + 34 + 3 + m) (by omega), hf2 (o + 34 + 3 + m) (by omega), hf7 (o + 34 + 3 + m) (by omega)]; exact hrow i hi) (by rw [← hX]; show _ = x_fd _ _ _ r (x_fs _ _ _ _ _); rw [x_fs_y hv (by omega)]) (fun c9 hc9 => by cases hc9; exact ⟨by rw [hfc 147 (by omega), hs2, pk_us], fun i hi => by rw [hcp i (by omega), hf2 (o + 34 + 3 + m) (by omega), hf7 (o + 34 + 3 + m) (by omega)]; exact hrow i hi⟩) (fun c9 hc9 => by cases hc9; exact hvb) (fun j hj => by rw [hfc 149 (by omega), hf2 149 (by omega), hf7 149 (by omega)]; exact h149 j hj) (fun k hk => by rw [hfc (h + 5) (by omega), hf2 (h + 5) (by omega), q3]; exact hop9 k hk) (by rw [hfc h (by omega), hf2 h (by omega), q4]; exact h9) (by rw [hfc h (by omega), hf2 h (by omega), q5]; exact h10) (fun k g1 g2 g3 g4 g5 => by rw [hfc k (by omega), hf2 k (by omega), hf7 k (by omega)]; exact hf k g1 g2 g3 g4 g5)
                · refine n_const 1 dX6_explore_101 (by decide) ?_
                  refine r_istore dX6_explore_102 (by decide) rfl ?_
                  refine r_aload_n dX6_explore_104 rfl rfl ?_
                  refine r_aload_n dX6_explore_105 rfl rfl ?_
                  refine s_getI dX6_explore_106 fX6_28 (layX10 hh) rfl (q2 v hv) ?_
                  refine a_put dX6_explore_109 gX6_55 lysX6 rfl rfl rfl (fun s2 hs2 hf2 => ?_)
                  refine r_aload dX6_explore_112 rfl ?_
                  refine r_aload_n dX6_explore_114 rfl rfl ?_
                  refine s_getR dX6_explore_115 fX6_9 lysX6 rfl ?_
                  refine s_N2V mX11_copyRow dX6_explore_118 okX11_copyRow lX6_47 npX11_copyRow (by decide) (by decide) (by decide) (Nat.le_of_ble_eq_true rfl) (Nat.le_of_ble_eq_true rfl) (c_copyRow hl rfl (by decide)) (fun s1 hq => ?_)
                  obtain ⟨hcp, hfc⟩ := hq
                  first
                    | exact rest (some c) _ s1 (fun i hi => by rw [hf7 (o + 34 + 3 + m) (by omega)]; exact hrow i hi) (by rw [← hX]; show _ = x_fd _ _ _ r (x_fs _ _ _ _ _); rw [x_fs_k hv (by omega)]) (fun c9 hc9 => by rw [hf7 147 (by omega), hf7 148 (by omega)]; exact hb c9 hc9) hbd (fun j hj => by rw [hf7 149 (by omega)]; exact h149 j hj) (fun k hk => by rw [q3]; exact hop9 k hk) (by rw [q4]; exact h9) (by rw [q5]; exact h10) (fun k g1 g2 g3 g4 g5 => by rw [hf7 k (by omega)]; exact hf k g1 g2 g3 g4 g5)
                    | exact rest (some (v, l)) _ _ (fun i hi => by rw [hfc (o + 34 + 3 + m) (by omega), hf2 (o + 34 + 3 + m) (by omega), hf7 (o + 34 + 3 + m) (by omega)]; exact hrow i hi) (by rw [← hX]; show _ = x_fd _ _ _ r (x_fs _ _ _ _ _); rw [x_fs_y hv (by omega)]) (fun c9 hc9 => by cases hc9; exact ⟨by rw [hfc 147 (by omega), hs2, pk_us], fun i hi => by rw [hcp i (by omega), hf2 (o + 34 + 3 + m) (by omega), hf7 (o + 34 + 3 + m) (by omega)]; exact hrow i hi⟩) (fun c9 hc9 => by cases hc9; exact hvb) (fun j hj => by rw [hfc 149 (by omega), hf2 149 (by omega), hf7 149 (by omega)]; exact h149 j hj) (fun k hk => by rw [hfc (h + 5) (by omega), hf2 (h + 5) (by omega), q3]; exact hop9 k hk) (by rw [hfc h (by omega), hf2 h (by omega), q4]; exact h9) (by rw [hfc h (by omega), hf2 h (by omega), q5]; exact h10) (fun k g1 g2 g3 g4 g5 => by rw [hfc k (by omega), hf2 k (by omega), hf7 k (by omega)]; exact hf k g1 g2 g3 g4 g5)
  refine r_aload_n dX6_explore_0 rfl rfl ?_
  refine s_getR dX6_explore_1 fX6_18 (layX10 hh) rfl ?_
  refine r_iload_n dX6_explore_4 rfl rfl ?_
  refine n_const 1 dX6_explore_5 (by decide) ?_
  refine a_zst (b := true) dX6_explore_6 (X10_open hh) (by omega) (by decide) (fun s2 hs2 hf2 => ?_)
  refine r_aload_n dX6_explore_7 rfl rfl ?_
  refine r_aload_n dX6_explore_8 rfl rfl ?_
  refine s_V1I mX10_compute dX6_explore_9 okX10_compute lX6_24 npX10_compute (layX10 hh) rfl (by decide) (by decide) (by decide) (Nat.le_of_ble_eq_true rfl) (Nat.le_of_ble_eq_true rfl) (c_computeS (op := va_up op m true) ho hh (c_R_fr hCX hf2 (by omega) hs.1) hw (fun k hk => by rw [hs2]; by_cases e : k = m; (· subst e; rw [pk_us, va_up_s]); rw [pk_un e, va_up_n e]; exact hop k hk) ⟨by rw [hf2 h (by omega)]; exact hH.1, by rw [hf2 h (by omega)]; exact hH.2⟩) (fun x s1 hq => ?_)
  obtain ⟨rfl, q2, q3, q4, q5, hf7⟩ := hq
  refine r_pop dX6_explore_12 rfl ?_
  refine r_aload_n dX6_explore_13 rfl rfl ?_
  refine s_getR dX6_explore_14 fX6_18 (layX10 hh) rfl ?_
  refine r_iload_n dX6_explore_17 rfl rfl ?_
  refine n_const 0 dX6_explore_18 (by decide) ?_
  refine a_zst (b := false) dX6_explore_19 (X10_open hh) (by omega) (by decide) (fun s3 hs3 hf3 => ?_)
  refine r_aload_n dX6_explore_20 rfl rfl ?_
  refine s_getI dX6_explore_21 fX6_28 (layX10 hh) rfl (show s3 h 6 = nI fl by rw [hf3 h (by omega)]; exact q2 fl hfl) ?_
  refine r_istore dX6_explore_24 (by decide) rfl ?_
  refine r_aload_n dX6_explore_26 rfl rfl ?_
  refine s_getR dX6_explore_27 fX6_32 (layX7 ho) rfl ?_
  refine s_getR dX6_explore_30 fX6_38 (layX5 (X7_orders ho)) rfl ?_
  refine r_iload_n dX6_explore_33 rfl rfl ?_
  refine a_ald dX6_explore_34 (X5_rows (X7_orders ho)) (by omega) (by decide) ?_
  refine r_astore dX6_explore_35 (by decide) rfl ?_
  refine r_aload_n dX6_explore_37 rfl rfl ?_
  refine s_getR dX6_explore_38 fX6_32 (layX7 ho) rfl ?_
  refine s_getR dX6_explore_41 fX6_44 (layX5 (X7_orders ho)) rfl ?_
  refine r_iload_n dX6_explore_44 rfl rfl ?_
  refine a_ld dX6_explore_45 (X5_sizes (X7_orders ho)) (by omega) (by decide) (show s3 (o + 34 + 1) m = nI (X (179 + m)) by rw [hf3 (o + 34 + 1) (by omega), hf7 (o + 34 + 1) (by omega), hf2 (o + 34 + 1) (by omega)]; exact cl_on hCX hm) ?_
  refine r_istore dX6_explore_46 (by decide) rfl ?_
  refine r_aload dX6_explore_48 rfl ?_
  refine r_aload_n dX6_explore_50 rfl rfl ?_
  refine s_getR dX6_explore_51 fX6_15 lysX6 rfl ?_
  refine s_N2V mX11_copyRow dX6_explore_54 okX11_copyRow lX6_47 npX11_copyRow (by decide) (by decide) (by decide) (Nat.le_of_ble_eq_true rfl) (Nat.le_of_ble_eq_true rfl) (c_copyRow hl rfl (by decide)) (fun s1 hq => ?_)
  obtain ⟨hcp, hfc⟩ := hq
  refine r_aload dX6_explore_57 rfl ?_
  refine r_iload dX6_explore_59 rfl ?_
  refine s_S2V mX6_sort dX6_explore_61 okX6_sort lX6_51 npX6_sort (by decide) (by decide) (by decide) (Nat.le_of_ble_eq_true rfl) (Nat.le_of_ble_eq_true rfl) (c_sort (f0 := fun i => X (183 + 5 * m + i)) (Q := fun x => x < X 1 ∧ X (62 + x) = m) hl h5 (fun i hi => by rw [hfc (o + 34 + 3 + m) (by omega), hf3 (o + 34 + 3 + m) (by omega), hf7 (o + 34 + 3 + m) (by omega), hf2 (o + 34 + 3 + m) (by omega)]; exact cl_ord hCX hm hi) (fun i hi => x_od hw hm hi) (fun i j hi hj e => x_od1 hw hm hi hj e) (fun x hx => by have := hx.1; omega)) (fun s1 hq => ?_)
  obtain ⟨f9, g1, g2, g3, hfs⟩ := hq
  refine n_const 0 dX6_explore_64 (by decide) ?_
  refine r_istore dX6_explore_65 (by decide) rfl ?_
  refine n_const 0 dX6_explore_67 (by decide) ?_
  refine r_istore dX6_explore_68 (by decide) rfl ?_
  have hso := x_so_eq hw hm g2 g3
  cases hL : a_cm (X (179 + m)) (X (179 + m)) [] with
  | nil => have h8 := a_hd _ h5; rw [hL] at h8; cases h8
  | cons l r =>
    have h8 := a_hd _ h5
    rw [hL] at h8
    have h8 : l = List.range (X (179 + m)) := Option.some.inj h8
    have h7 := a_vl _ h5
    rw [hL] at h7
    have h6 := a_ch_ok _ h5
    rw [hL] at h6
    have h4 := a_ln _ h5
    rw [hL] at h4
    have hro : ∀ i, i < X (179 + m) → s1 (o + 34 + 3 + m) i = nI (x_so X m (x_gt l i)) := fun i hi => by
      rw [g1 i hi, hso i hi, h8, x_gt_range hi]
    have hfr : ∀ k, k ≠ o + 37 + m → k ≠ 149 → ¬ (h ≤ k ∧ k < h + 8) → s1 k = s k := fun k e1 e2 e3 => by rw [hfs k (by omega), hfc k (by omega), hf3 k (by omega), hf7 k (by omega), hf2 k (by omega)]
    refine lp 121 l r none 0 _ s1 ?_ hro (by unfold x_bo; rw [hL]) (fun c z => by cases z) (fun c z => by cases z) h6 h7 (by omega) (fun j hj => ?_) (fun k hk => ?_) ?_ ?_ (fun k e1 e2 e3 e4 e5 => hfr k e5 e4 e1) (by omega)
    · refine c_R_rw2 hCX hw hm (x_pt_pr hw hm (h7 l (List.mem_cons_self))) (fun k e1 e2 e3 => hfr k e3 (by omega) (by omega)) (fun i hi => ?_)
      rw [x_pt_i hi]; exact hro i hi
    · rw [hfs 149 (by omega), hcp j hj, hf3 (o + 34 + 3 + m) (by omega), hf7 (o + 34 + 3 + m) (by omega), hf2 (o + 34 + 3 + m) (by omega)]
    · rw [hfs (h + 5) (by omega), hfc (h + 5) (by omega), hs3]
      by_cases e : k = m
      · subst e; rw [pk_us, va_up_s]
      · rw [pk_un e, va_up_n e, q3, hs2, pk_un e]; exact hop k hk
    · rw [hfs h (by omega), hfc h (by omega), hf3 h (by omega), q4, hf2 h (by omega)]
    · rw [hfs h (by omega), hfc h (by omega), hf3 h (by omega), q5, hf2 h (by omega)]
end
