/-! ===== the law, from its beginning ===== -/
theorem x0_wf : x_wf (fun _ => 0) := by
  refine ⟨Nat.zero_le _, Nat.zero_le _, fun j hj => absurd hj (Nat.not_lt_zero j), fun j i hj => absurd hj (Nat.not_lt_zero j), fun o ho => absurd ho (Nat.not_lt_zero o), fun o o' ho => absurd ho (Nat.not_lt_zero o), fun f g _ _ => Nat.zero_le _, fun m _ => ⟨Nat.zero_le _, fun i hi => absurd hi (Nat.not_lt_zero i)⟩, fun m _ => ⟨Nat.zero_le _, fun i hi => absurd hi (Nat.not_lt_zero i)⟩, fun o ho => absurd ho (Nat.not_lt_zero o)⟩
theorem x0_gd : x_gd (fun _ => 0) := ⟨x0_wf, ⟨fun _ => 0, fun o ho => absurd ho (Nat.not_lt_zero o)⟩⟩
def z00 : z_T := fun _ _ => 0
theorem z00_wf : z_wf z00 := ⟨x0_gd, fun _ => x0_gd, Nat.zero_le _, ⟨Nat.zero_le _, fun k hk => absurd hk (Nat.not_lt_zero k)⟩, ⟨Nat.zero_le _, fun k hk => absurd hk (Nat.not_lt_zero k)⟩, ⟨Nat.zero_le _, fun q => by cases q⟩, Nat.zero_le _⟩
theorem s00_0 {k : Nat} (h : k ≠ 124 ∧ k ≠ 132 ∧ k ≠ 152 ∧ k ≠ 162 ∧ k ≠ 212) : s00 k = fun _ => 0 := by
  unfold s00
  rw [if_neg (by omega), if_neg (by omega)]
theorem s00_at {k : Nat} (h : k ≠ 124 ∧ k ≠ 132 ∧ k ≠ 152 ∧ k ≠ 162 ∧ k ≠ 212) (j : Nat) : s00 k j = nI 0 := by rw [s00_0 h]; rfl
theorem c00 (o : Nat) (ho : o = 1 ∨ o = 42) : c_R (fun _ => 0) s00 o := by
  refine ⟨⟨s00_at (by omega) _, s00_at (by omega) _⟩, fun j hj => absurd hj (Nat.not_lt_zero j), fun k hk => absurd hk (Nat.not_lt_zero k), fun f g hf hg => s00_at (by omega) _, fun m hm => ⟨s00_at (by omega) _, fun i hi => absurd hi (Nat.not_lt_zero i)⟩, fun m hm => ⟨s00_at (by omega) _, fun i hi => absurd hi (Nat.not_lt_zero i)⟩⟩
theorem j00 : j_I z00 s00 := by
  refine ⟨z00_wf, ⟨c00 1 (Or.inl rfl), fun _ => c00 42 (Or.inr rfl), s00_at (by omega) _, fun h hh => ⟨fun m hm => ?_, ?_, 0, Nat.zero_le _, ?_⟩, ⟨rfl, 0, Nat.zero_le _, rfl⟩, s00_at (by omega) _, fun k hk => absurd hk (Nat.not_lt_zero k), s00_at (by omega) _, fun k hk => absurd hk (Nat.not_lt_zero k), s00_at (by omega) _, fun q => (by cases q), s00_at (by omega) _⟩, fun k _ => s00_at (by omega) _, ?_⟩
  · exact s00_at (by omega) _
  · rcases hh with rfl | rfl | rfl <;> rfl
  · rcases hh with rfl | rfl | rfl <;> rfl
  · exact ⟨fun q => (by cases q), rfl, rfl, fun k hk => absurd hk (Nat.not_lt_zero k), rfl, fun k hk => absurd hk (Nat.not_lt_zero k), rfl, fun q => (by cases q), rfl, fun m _ => s00_at (by omega) _, ⟨0, Nat.zero_le _, rfl, rfl⟩, fun k _ => s00_at (by omega) _⟩
set_option maxRecDepth 20000 in
set_option maxHeartbeats 2000000 in
theorem lw_begin {G : q_G} {h : q_H} (hG : G.2.2.1 ≤ 2560) : q_W G mL_law 20 1772 12648 (s_P (fun r _ => r = .inl (some (.int (nI 1))))) 0 (q_ent mL_law [.ref 1000000]) [] 0 h := by
  show q_W G mL_law 20 1772 12648 _ 0 [some (.ref 1000000), none, none, none, none, none, none, none, none] [] 0 h
  refine k_newX11 dL_law_0 kwL_L_8 (by decide) (by decide) (by decide) ?_
  refine r_dup dL_law_3 rfl ?_
  refine k_call mX11_init (m := 212) dL_law_4 okX11_init (Or.inl lL_114) npX11_init (by decide) (by decide) (by decide) (Nat.le_of_ble_eq_true rfl) (Nat.le_of_ble_eq_true rfl) kX11_0 ?_
  refine r_astore_n dL_law_7 rfl (by decide) rfl ?_
  refine k_newX12 dL_law_8 kwL_L_115 (by decide) (by decide) (by decide) ?_
  refine r_dup dL_law_11 rfl ?_
  refine k_call mX12_init (m := 234) dL_law_12 okX12_init (Or.inl lL_117) npX12_init (by decide) (by decide) (by decide) (Nat.le_of_ble_eq_true rfl) (Nat.le_of_ble_eq_true rfl) kX12_212 ?_
  refine r_astore_n dL_law_15 rfl (by decide) rfl ?_
  refine r_iconst (v := 1) dL_law_16 (by decide) ?_
  refine r_newa (t := 3) (N := 1) (ty := .long) (b := (1, .inr (.inl (fun _ => 0)))) dL_law_17 rfl (fun _ => rfl) (fun CC q => by cases q) kwA_long (fun _ => rfl) (fun f q => by cases q) (by decide) (by decide) (by decide) (by decide) (by decide) (by decide) ?_
  refine r_astore_n dL_law_19 rfl (by decide) rfl ?_
  refine r_iconst (v := 1) dL_law_20 (by decide) ?_
  refine r_newa (t := 4) (N := 1) (ty := .double) (b := (1, .inr (.inr (.inr (.inl (fun _ => 0)))))) dL_law_21 rfl (fun _ => rfl) (fun CC q => by cases q) kwA_double (fun _ => rfl) (fun f q => by cases q) (by decide) (by decide) (by decide) (by decide) (by decide) (by decide) ?_
  refine r_astore dL_law_23 (by decide) rfl ?_
  refine r_iconst (v := nI 0) dL_law_25 (by decide) ?_
  refine r_istore dL_law_26 (by decide) rfl ?_
  refine q_W_congr (h := q_hs s00) (fun k hk => ?_) ?_
  · by_cases e5 : k = 235
    · subst e5; rfl
    · refine (va_up_n e5).trans ?_
      by_cases e4 : k = 234
      · subst e4; rfl
      · refine (va_up_n e4).trans ?_
        by_cases e3 : k < 212
        · refine (kh_lt e3).trans ?_
          exact kh_ge (Nat.not_lt_zero k)
        · exact kh_ge e3
  · exact lw_loop (fun _ => rfl) hG 512 0 z00 s00 j00 (Nat.zero_le _) (by omega)
