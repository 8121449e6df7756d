/-! ===== save, restore, append ===== -/
def z_save (z : z_T) : z_T := va_up (va_up z 1 (z 0)) 2 (va_up (z 2) 0 1)
def A_save (z : z_T) : a_T := (0, 0, z_save z)
def A_restore (z : z_T) : a_T := if z 2 0 = 1 then (0, 0, va_up z 0 (z 1)) else (1, 0, z)
set_option maxRecDepth 20000 in
set_option maxHeartbeats 1000000 in
theorem c_save {G : q_G} {s : s_T} {z : z_T} (hz : z_wf z) (hZ : c_Z z s) : s_W G mX11_save 8 0 0 (c_Pv [] (A_save z) s) 0 (q_ent mX11_save [.ref 0]) [] s := by
  show s_W G mX11_save 8 0 0 _ 0 [some (.ref 0)] [] s
  have hw := hz.1.1
  have hs := x_sz hw
  have hC := hZ.1
  have hf : s_fr 0 212 s s := s_fr_rf
  have ho : isX7 1 := Or.inl rfl
  refine r_aload_n dX11_save_0 rfl rfl ?_
  refine s_getR dX11_save_1 fX11_16 lysX11 rfl ?_
  refine r_aload_n dX11_save_4 rfl rfl ?_
  refine s_getR dX11_save_5 fX11_10 lysX11 rfl ?_
  refine s_V1V mX7_copyFrom dX11_save_8 okX7_copyFrom lX11_369 npX7_copyFrom (layX7 isX7_42) rfl (by decide) (by decide) (by decide) (Nat.le_of_ble_eq_true rfl) (Nat.le_of_ble_eq_true rfl) (c_shopCopy isX7_42 isX7_1 (by decide) hC hw) (fun s1 hq => ?_)
  obtain ⟨hX, hf1⟩ := hq
  refine r_aload_n dX11_save_11 rfl rfl ?_
  refine n_const 1 dX11_save_12 (by decide) ?_
  refine a_put dX11_save_13 gX11_385 lysX11 rfl rfl rfl (fun s2 hs2 hf2 => ?_)
  refine s_vret dX11_save_16 rfl ?_
  refine c_Pv_s rfl ?_ (s_fr_tr (s_fr_w hf1 (by omega) (by omega)) (s_fr_w hf2 (by omega) (by omega)))
  obtain ⟨a1, a2, a3, a4, a5, a6, a7, a8, a9, a10, a11, a12⟩ := hZ
  have r : ∀ k, (0 < k ∧ k < 42) ∨ 83 ≤ k → s2 k = s k := fun k hk => by rw [hf2 k (by omega), hf1 k (by omega)]
  refine ⟨c_R_fr (c_R_fr a1 hf1 (Or.inl (by omega)) hs.1) hf2 (Or.inr (by omega)) hs.1, fun _ => c_R_fr hX hf2 (Or.inr (by omega)) hs.1, ?_, ?_, ?_, ?_, ?_, ?_, ?_, ?_, ?_, ?_⟩
  · rw [hs2, pk_us]; rfl
  · intro h hh; rw [r (h + 5) (by omega), r h (by omega)]; exact a4 h hh
  · rw [r 152 (by omega)]; exact a5
  · rw [r 206 (by omega)]; exact a6
  · intro k hk; rw [r 207 (by omega)]; exact a7 k hk
  · rw [r 210 (by omega)]; exact a8
  · intro k hk; rw [r 211 (by omega)]; exact a9 k hk
  · rw [r 150 (by omega)]; exact a10
  · intro hk k hk2; rw [r 151 (by omega)]; exact a11 hk k hk2
  · rw [r 161 (by omega)]; exact a12
set_option maxRecDepth 20000 in
set_option maxHeartbeats 1000000 in
theorem c_restore {G : q_G} {s : s_T} {z : z_T} (hz : z_wf z) (hZ : c_Z z s) : s_W G mX11_restore 8 2 12 (c_Pv [q_IS] (A_restore z) s) 0 (q_ent mX11_restore [.ref 0]) [] s := by
  show s_W G mX11_restore 8 2 12 _ 0 [some (.ref 0)] [] s
  have hw := hz.1.1
  have hs := x_sz hw
  have hC := hZ.1
  have hf : s_fr 0 212 s s := s_fr_rf
  have ho : isX7 1 := Or.inl rfl
  have h201 := hz.2.2.1
  refine r_aload_n dX11_restore_0 rfl rfl ?_
  refine s_getI dX11_restore_1 fX11_385 lysX11 rfl hZ.2.2.1 ?_
  refine n_ifne (tgt := 18) dX11_restore_4 (by decide) (by omega) (fun c4 => ?_) (fun c4 => ?_)
  · have h20 : z 2 0 = 1 := by have := hz.2.2.1; omega
    refine r_aload_n dX11_restore_18 rfl rfl ?_
    refine s_getR dX11_restore_19 fX11_10 lysX11 rfl ?_
    refine r_aload_n dX11_restore_22 rfl rfl ?_
    refine s_getR dX11_restore_23 fX11_16 lysX11 rfl ?_
    refine s_V1V mX7_copyFrom dX11_restore_26 okX7_copyFrom lX11_369 npX7_copyFrom (layX7 isX7_1) rfl (by decide) (by decide) (by decide) (Nat.le_of_ble_eq_true rfl) (Nat.le_of_ble_eq_true rfl) (c_shopCopy isX7_1 isX7_42 (by decide) (hZ.2.1 h20) (hz.2.1 h20).1) (fun s1 hq => ?_)
    obtain ⟨hX, hf1⟩ := hq
    refine s_vret dX11_restore_29 rfl ?_
    exact c_Pv_s (by unfold A_restore; rw [if_pos h20]) (c_Z_eq hZ hX (c_eq_fr hf1 (by omega)) (z_J hz)) (s_fr_w hf1 (by omega) (by omega))
  · refine s_throwSW dX11_restore_7 dX11_restore_10 dX11_restore_11 dX11_restore_14 dX11_restore_17 thrX11_389_107 rfl (by decide) (by decide) (by decide) (Nat.le_of_ble_eq_true rfl) ?_
    exact c_Pv_e 1 (by unfold A_restore; rw [if_neg (by omega)]) (by decide) rfl hZ hf
set_option maxRecDepth 20000 in
set_option maxHeartbeats 1000000 in
theorem m_save {G : q_G} {s : s_T} {z : z_T} (hz : z_wf z) (hM : m_R (z 0) s) (hO : m_O z s) : s_W G mX12_save 8 0 0 (m_Pv (A_save z) s) 0 (q_ent mX12_save [.ref 212]) [] s := by
  show s_W G mX12_save 8 0 0 _ 0 [some (.ref 212)] [] s
  have hw := hz.1.1
  have hs := x_sz hw
  have hf : s_fr 212 234 s s := s_fr_rf
  refine r_aload_n dX12_save_0 rfl rfl ?_
  refine n_const 0 dX12_save_1 (by decide) ?_
  refine a_put dX12_save_2 gX12_79 lysX12 rfl rfl rfl (fun s1 hs1 hf1 => ?_)
  have h3 := (congrFun hs1 3).trans pk_us
  have hM := m_R_fr hM hf1 (Or.inr (by omega))
  have hO := m_O_eq hO (m_eq_put hs1 hf1 (by decide))
  have hf := s_fr_tr hf (s_fr_w (lo' := 212) (hi' := 234) hf1 (by omega) (by omega))
  refine r_aload_n dX12_save_5 rfl rfl ?_
  refine s_getR dX12_save_6 fX12_9 lysX12 rfl ?_
  refine n_const 0 dX12_save_9 (by decide) ?_
  refine r_aload_n dX12_save_10 rfl rfl ?_
  refine s_getR dX12_save_11 fX12_13 lysX12 rfl ?_
  refine n_const 0 dX12_save_14 (by decide) ?_
  refine n_sip 203 dX12_save_15 (by decide) ?_
  refine n_copy dX12_save_18 kwC_X12 (by decide) (Nat.le_of_ble_eq_true rfl) rfl rfl (by omega) (by omega) (by decide) (by decide) (fun s2 hs2 hf2 => ?_)
  refine r_aload_n dX12_save_21 rfl rfl ?_
  refine n_const 1 dX12_save_22 (by decide) ?_
  refine a_put dX12_save_23 gX12_327 lysX12 rfl rfl rfl (fun s3 hs3 hf3 => ?_)
  refine s_vret dX12_save_26 rfl ?_
  have r : ∀ k, k ≠ 212 → k ≠ 214 → s3 k = s1 k := fun k h1 h2 => by rw [hf3 k (by omega), hf2 k (by omega)]
  have r2 : ∀ j, j ≠ 2 → s3 212 j = s1 212 j := fun j hj => by rw [hs3, pk_un hj, hf2 212 (by omega)]
  refine m_Pv_s (c := 0) rfl (by rw [r2 3 (by decide)]; exact h3) (fun k hk => by rw [r 213 (by decide) (by decide)]; exact hM k hk) ?_ (s_fr_tr hf (s_fr_tr (s_fr_w hf2 (by omega) (by omega)) (s_fr_w hf3 (by omega) (by omega))))
  obtain ⟨a1, a2, a3, a4, a5, a6, a7, a8, a9, a10, ⟨hu, b1, b2, b3⟩, a12⟩ := hO
  refine ⟨fun _ k hk => ?_, ?_, ?_, ?_, ?_, ?_, ?_, ?_, ?_, ?_, ⟨hu, b1, ?_, ?_⟩, ?_⟩
  · rw [hf3 214 (by omega), hs2, if_pos (by omega), Nat.sub_zero, Nat.zero_add]; exact hM k hk
  · rw [hs3, pk_us]; rfl
  · rw [r2 5 (by decide)]; exact a3
  · intro k hk; rw [r 215 (by decide) (by decide)]; exact a4 k hk
  · rw [r2 7 (by decide)]; exact a5
  · intro k hk; rw [r 216 (by decide) (by decide)]; exact a6 k hk
  · rw [r2 9 (by decide)]; exact a7
  · intro hk k hk2; rw [r 217 (by decide) (by decide)]; exact a8 hk k hk2
  · rw [r2 10 (by decide)]; exact a9
  · intro m hm; rw [r 220 (by decide) (by decide)]; exact a10 m hm
  · rw [r2 14 (by decide)]; exact b2
  · rw [r2 15 (by decide)]; exact b3
  · intro k hk; rw [r 225 (by decide) (by decide)]; exact a12 k hk
set_option maxRecDepth 20000 in
set_option maxHeartbeats 1000000 in
theorem m_restore {G : q_G} {s : s_T} {z : z_T} (hz : z_wf z) (hM : m_R (z 0) s) (hO : m_O z s) : s_W G mX12_restore 8 0 0 (m_Pv (A_restore z) s) 0 (q_ent mX12_restore [.ref 212]) [] s := by
  show s_W G mX12_restore 8 0 0 _ 0 [some (.ref 212)] [] s
  have hw := hz.1.1
  have hs := x_sz hw
  have hf : s_fr 212 234 s s := s_fr_rf
  have h201 := hz.2.2.1
  refine r_aload_n dX12_restore_0 rfl rfl ?_
  refine r_aload_n dX12_restore_1 rfl rfl ?_
  refine s_getI dX12_restore_2 fX12_327 lysX12 rfl hO.2.1 ?_
  refine n_ifeq (tgt := 12) dX12_restore_5 (by decide) (by omega) (fun c5 => ?_) (fun c5 => ?_)
  · have h20 : ¬ z 2 0 = 1 := by omega
    refine n_const 1 dX12_restore_12 (by decide) ?_
    refine a_put dX12_restore_13 gX12_79 lysX12 rfl rfl rfl (fun s1 hs1 hf1 => ?_)
    have h3 := (congrFun hs1 3).trans pk_us
    have hM := m_R_fr hM hf1 (Or.inr (by omega))
    have hO := m_O_eq hO (m_eq_put hs1 hf1 (by decide))
    have hf := s_fr_tr hf (s_fr_w (lo' := 212) (hi' := 234) hf1 (by omega) (by omega))
    refine r_aload_n dX12_restore_16 rfl rfl ?_
    refine s_getI dX12_restore_17 fX12_79 lysX12 rfl h3 ?_
    refine n_ifne (tgt := 39) dX12_restore_20 (by decide) (by omega) (fun c20 => ?_) (fun c20 => ?_)
    · refine s_vret dX12_restore_39 rfl ?_
      first
        | exact m_Pv_s (c := 1) (by unfold A_restore; rw [if_neg h20]) h3 hM hO hf
        | exact m_Pv_s (c := 0) (z := va_up z 0 (z 1)) (by unfold A_restore; rw [if_pos h20]) (by rw [hf2 212 (by omega)]; exact h3) (fun k hk => by rw [hs2, if_pos (by omega), Nat.sub_zero, Nat.zero_add]; exact hO.1 h20 k hk) (m_O_X (m_O_eq hO (m_eq_fr hf2 (by omega)))) (s_fr_tr hf (s_fr_w hf2 (by omega) (by omega)))
    · exact absurd c20 (by decide)
  · have h20 : z 2 0 = 1 := by have := hz.2.2.1; omega
    refine n_const 0 dX12_restore_8 (by decide) ?_
    refine r_goto (tgt := 13) dX12_restore_9 (by decide) ?_
    refine a_put dX12_restore_13 gX12_79 lysX12 rfl rfl rfl (fun s1 hs1 hf1 => ?_)
    have h3 := (congrFun hs1 3).trans pk_us
    have hM := m_R_fr hM hf1 (Or.inr (by omega))
    have hO := m_O_eq hO (m_eq_put hs1 hf1 (by decide))
    have hf := s_fr_tr hf (s_fr_w (lo' := 212) (hi' := 234) hf1 (by omega) (by omega))
    refine r_aload_n dX12_restore_16 rfl rfl ?_
    refine s_getI dX12_restore_17 fX12_79 lysX12 rfl h3 ?_
    refine n_ifne (tgt := 39) dX12_restore_20 (by decide) (by omega) (fun c20 => ?_) (fun c20 => ?_)
    · exact absurd c20 (by decide)
    · refine r_aload_n dX12_restore_23 rfl rfl ?_
      refine s_getR dX12_restore_24 fX12_13 lysX12 rfl ?_
      refine n_const 0 dX12_restore_27 (by decide) ?_
      refine r_aload_n dX12_restore_28 rfl rfl ?_
      refine s_getR dX12_restore_29 fX12_9 lysX12 rfl ?_
      refine n_const 0 dX12_restore_32 (by decide) ?_
      refine n_sip 203 dX12_restore_33 (by decide) ?_
      refine n_copy dX12_restore_36 kwC_X12 (by decide) (Nat.le_of_ble_eq_true rfl) rfl rfl (by omega) (by omega) (by decide) (by decide) (fun s2 hs2 hf2 => ?_)
      refine s_vret dX12_restore_39 rfl ?_
      first
        | exact m_Pv_s (c := 1) (by unfold A_restore; rw [if_neg h20]) h3 hM hO hf
        | exact m_Pv_s (c := 0) (z := va_up z 0 (z 1)) (by unfold A_restore; rw [if_pos h20]) (by rw [hf2 212 (by omega)]; exact h3) (fun k hk => by rw [hs2, if_pos (by omega), Nat.sub_zero, Nat.zero_add]; exact hO.1 h20 k hk) (m_O_X (m_O_eq hO (m_eq_fr hf2 (by omega)))) (s_fr_tr hf (s_fr_w hf2 (by omega) (by omega)))
section CST
variable {G : q_G} {M : q_M} {d C S : Nat} {P : q_R → s_T → Prop} {pc : Nat} {L : List (Option Value)} {st : List Value} {s : s_T}
theorem a_cst {k len e c : Nat} (dc : decode M.2.2.1 pc = .ok (.castore, 1)) (hl : q_lay k = .inl (2, len, none)) (he : e < len) (h2 : len < 2 ^ 31) (hc : c < 65536) (K : ∀ s', s' k = upd (s k) e (nI c) → s_fr k (k + 1) s s' → s_W G M d C S P (pc + 1) L st s') : s_W G M d C S P pc L (.int (nI c) :: .int (nI e) :: .ref k :: st) s := by
  refine s_cast dc hl (n_bd he h2) (nar_c hc) ?_
  rw [nI_clamp (by omega)]
  exact K _ (by simp [s_u, va_up]) (s_fr_u s_fr_rf (Nat.le_refl _) (by omega))
end CST
set_option maxRecDepth 20000 in
set_option maxHeartbeats 1000000 in
theorem c_add {G : q_G} {s : s_T} {n c : Nat} (h0 : s 206 0 = nI n) (hn : n < 80) (hc : c < 65536) : s_W G mX9_add 1 0 0 (c_V (fun s1 => s1 207 = upd (s 207) n (nI c) ∧ s1 206 = upd (s 206) 0 (nI (n + 1)) ∧ s_fr 206 208 s s1)) 0 (q_ent mX9_add [.ref 206, .int (nI c)]) [] s := by
  show s_W G mX9_add 1 0 0 _ 0 [some (.ref 206), some (.int (nI c))] [] s
  refine r_aload_n dX9_add_0 rfl rfl ?_
  refine s_getR dX9_add_1 fX9_9 lysX9 rfl ?_
  refine r_aload_n dX9_add_4 rfl rfl ?_
  refine s_getI dX9_add_5 fX9_22 lysX9 rfl h0 ?_
  refine r_iload_n dX9_add_8 rfl rfl ?_
  refine a_cst dX9_add_9 rfl (by omega) (by decide) hc (fun s1 hs1 hf1 => ?_)
  refine r_aload_n dX9_add_10 rfl rfl ?_
  refine r_dup dX9_add_11 rfl ?_
  refine s_getI dX9_add_12 fX9_22 lysX9 rfl (show s1 206 0 = nI n by rw [hf1 206 (by omega)]; exact h0) ?_
  refine n_const 1 dX9_add_15 (by decide) ?_
  refine n_add dX9_add_16 ?_
  refine a_put dX9_add_17 gX9_22 lysX9 rfl rfl rfl (fun s2 hs2 hf2 => ?_)
  refine s_vret dX9_add_20 rfl ?_
  refine ⟨rfl, ?_, ?_, fun q hq => by rw [hf2 q (by omega), hf1 q (by omega)]⟩
  · rw [hf2 207 (by omega), hs1]
  · rw [hs2, hf1 206 (by omega)]
set_option maxRecDepth 20000 in
set_option maxHeartbeats 1000000 in
theorem c_append {G : q_G} {s : s_T} {z : z_T} (hz : z_wf z) (hZ : c_Z z s) {c : Nat} (hc : c < 65536) : s_W G mX11_append 8 2 12 (c_Pv [q_IS] (A_append z c) s) 0 (q_ent mX11_append [.ref 0, .int (nI c)]) [] s := by
  show s_W G mX11_append 8 2 12 _ 0 [some (.ref 0), some (.int (nI c))] [] s
  have hw := hz.1.1
  have hs := x_sz hw
  have hC := hZ.1
  have hf : s_fr 0 212 s s := s_fr_rf
  have ho : isX7 1 := Or.inl rfl
  have h80 := hz.2.2.2.1.1
  refine r_aload_n dX11_append_0 rfl rfl ?_
  refine s_getR dX11_append_1 fX11_77 lysX11 rfl ?_
  refine s_getI dX11_append_4 fX11_349 lysX9 rfl hZ.2.2.2.2.2.1 ?_
  refine n_bip 80 dX11_append_7 (by decide) ?_
  refine n_clt (tgt := 23) dX11_append_9 (by decide) (by omega) (by omega) (fun c9 => ?_) (fun c9 => ?_)
  · refine r_aload_n dX11_append_23 rfl rfl ?_
    refine s_getR dX11_append_24 fX11_77 lysX11 rfl ?_
    refine r_iload_n dX11_append_27 rfl rfl ?_
    refine s_V1V mX9_add dX11_append_28 okX9_add lX11_354 npX9_add lysX9 rfl (by decide) (by decide) (by decide) (Nat.le_of_ble_eq_true rfl) (Nat.le_of_ble_eq_true rfl) (c_add hZ.2.2.2.2.2.1 c9 hc) (fun s1 hq => ?_)
    obtain ⟨q1, q2, q3⟩ := hq
    refine s_vret dX11_append_31 rfl ?_
    refine c_Pv_s (z := z_app z c) (y := 0) (by unfold A_append; rw [if_neg (by omega)]) ?_ (s_fr_w q3 (by omega) (by omega))
    obtain ⟨a1, a2, a3, a4, a5, a6, a7, a8, a9, a10, a11, a12⟩ := hZ
    refine ⟨c_R_fr a1 q3 (Or.inl (by omega)) hs.1, fun q => c_R_fr (a2 q) q3 (Or.inl (by omega)) (show z 1 0 ≤ 5 from z_J (z := z) hz q), ?_, ?_, ?_, ?_, ?_, ?_, ?_, ?_, ?_, ?_⟩
    · rw [q3 0 (by omega)]; exact a3
    · intro h hh; rw [q3 (h + 5) (by omega), q3 h (by omega)]; exact a4 h hh
    · rw [q3 152 (by omega)]; exact a5
    · rw [q2, pk_us]; rfl
    · intro k hk
      have hk : k < z 2 1 + 1 := hk
      show s1 207 k = nI (va_up (z 3) (z 2 1) c k)
      rw [q1]
      by_cases e : k = z 2 1
      · subst e; rw [pk_us, va_up_s]
      · rw [pk_un e, va_up_n e]; exact a7 k (by omega)
    · rw [q3 210 (by omega)]; exact a8
    · intro k hk; rw [q3 211 (by omega)]; exact a9 k hk
    · rw [q3 150 (by omega)]; exact a10
    · intro hk k hk2; rw [q3 151 (by omega)]; exact a11 hk k hk2
    · rw [q3 161 (by omega)]; exact a12
  · refine s_throwSW dX11_append_12 dX11_append_15 dX11_append_16 dX11_append_19 dX11_append_22 thrX11_352_107 rfl (by decide) (by decide) (by decide) (Nat.le_of_ble_eq_true rfl) ?_
    exact c_Pv_e 1 (by unfold A_append; rw [if_pos (by omega)]) (by decide) rfl hZ hf
theorem m_O_app {z : z_T} {c : Nat} {s1 s2 s3 : s_T} (hO : m_O z s1) (hs2 : s2 215 = upd (s1 215) (z 2 1) (nI c)) (hf2 : s_fr 215 (215 + 1) s1 s2) (hs3 : s3 212 = upd (s2 212) 5 (nI (z 2 1 + 1))) (hf3 : s_fr 212 (212 + 1) s2 s3) : m_O (z_app z c) s3 := by
  have r : ∀ k, k ≠ 212 → k ≠ 215 → s3 k = s1 k := fun k h1 h2 => by rw [hf3 k (by omega), hf2 k (by omega)]
  have r2 : ∀ j, j ≠ 5 → s3 212 j = s1 212 j := fun j hj => by rw [hs3, pk_un hj, hf2 212 (by omega)]
  obtain ⟨a1, a2, a3, a4, a5, a6, a7, a8, a9, a10, ⟨hu, b1, b2, b3⟩, a12⟩ := hO
  refine ⟨fun q k hk => ?_, ?_, ?_, ?_, ?_, ?_, ?_, ?_, ?_, ?_, ⟨hu, b1, ?_, ?_⟩, ?_⟩
  · rw [r 214 (by decide) (by decide)]; exact a1 q k hk
  · rw [r2 2 (by decide)]; exact a2
  · rw [hs3, pk_us]; rfl
  · intro k hk
    have hk : k < z 2 1 + 1 := hk
    show s3 215 k = nI (va_up (z 3) (z 2 1) c k)
    rw [hf3 215 (by omega), hs2]
    by_cases e : k = z 2 1
    · subst e; rw [pk_us, va_up_s]
    · rw [pk_un e, va_up_n e]; exact a4 k (by omega)
  · rw [r2 7 (by decide)]; exact a5
  · intro k hk; rw [r 216 (by decide) (by decide)]; exact a6 k hk
  · rw [r2 9 (by decide)]; exact a7
  · intro hk k hk2; rw [r 217 (by decide) (by decide)]; exact a8 hk k hk2
  · rw [r2 10 (by decide)]; exact a9
  · intro m hm; rw [r 220 (by decide) (by decide)]; exact a10 m hm
  · rw [r2 14 (by decide)]; exact b2
  · rw [r2 15 (by decide)]; exact b3
  · intro k hk; rw [r 225 (by decide) (by decide)]; exact a12 k hk
set_option maxRecDepth 20000 in
set_option maxHeartbeats 1000000 in
theorem m_append {G : q_G} {s : s_T} {z : z_T} (hz : z_wf z) (hM : m_R (z 0) s) (hO : m_O z s) {c : Nat} (hc : c < 65536) : s_W G mX12_append 8 0 0 (m_Pv (A_append z c) s) 0 (q_ent mX12_append [.ref 212, .int (nI c)]) [] s := by
  show s_W G mX12_append 8 0 0 _ 0 [some (.ref 212), some (.int (nI c))] [] s
  have hw := hz.1.1
  have hs := x_sz hw
  have hf : s_fr 212 234 s s := s_fr_rf
  have h80 := hz.2.2.2.1.1
  refine r_aload_n dX12_append_0 rfl rfl ?_
  refine r_aload_n dX12_append_1 rfl rfl ?_
  refine s_getI dX12_append_2 fX12_279 lysX12 rfl hO.2.2.1 ?_
  refine n_bip 80 dX12_append_5 (by decide) ?_
  refine n_cne (tgt := 14) dX12_append_7 (by decide) (by omega) (by omega) (fun c7 => ?_) (fun c7 => ?_)
  · refine n_const 0 dX12_append_14 (by decide) ?_
    refine a_put dX12_append_15 gX12_79 lysX12 rfl rfl rfl (fun s1 hs1 hf1 => ?_)
    have h3 := (congrFun hs1 3).trans pk_us
    have hM := m_R_fr hM hf1 (Or.inr (by omega))
    have hO := m_O_eq hO (m_eq_put hs1 hf1 (by decide))
    have hf := s_fr_tr hf (s_fr_w (lo' := 212) (hi' := 234) hf1 (by omega) (by omega))
    refine r_aload_n dX12_append_18 rfl rfl ?_
    refine s_getI dX12_append_19 fX12_79 lysX12 rfl h3 ?_
    refine n_ifne (tgt := 45) dX12_append_22 (by decide) (by omega) (fun c22 => ?_) (fun c22 => ?_)
    · exact absurd c22 (by decide)
    · refine r_aload_n dX12_append_25 rfl rfl ?_
      refine s_getR dX12_append_26 fX12_16 lysX12 rfl ?_
      refine r_aload_n dX12_append_29 rfl rfl ?_
      refine s_getI dX12_append_30 fX12_279 lysX12 rfl hO.2.2.1 ?_
      refine r_iload_n dX12_append_33 rfl rfl ?_
      refine a_cst dX12_append_34 rfl (by omega) (by decide) hc (fun s2 hs2 hf2 => ?_)
      refine r_aload_n dX12_append_35 rfl rfl ?_
      refine r_dup dX12_append_36 rfl ?_
      refine s_getI dX12_append_37 fX12_279 lysX12 rfl (show s2 212 5 = nI (z 2 1) by rw [hf2 212 (by omega)]; exact hO.2.2.1) ?_
      refine n_const 1 dX12_append_40 (by decide) ?_
      refine n_add dX12_append_41 ?_
      refine a_put dX12_append_42 gX12_279 lysX12 rfl rfl rfl (fun s3 hs3 hf3 => ?_)
      refine s_vret dX12_append_45 rfl ?_
      first
        | exact m_Pv_s (c := 1) (by unfold A_append; rw [if_pos (by omega)]) h3 hM hO hf
        | exact m_Pv_s (c := 0) (z := z_app z c) (y := 0) (by unfold A_append; rw [if_neg (by omega)]) (by rw [hs3, pk_un (by decide), hf2 212 (by omega)]; exact h3) (m_R_fr (m_R_fr hM hf2 (Or.inl (by omega))) hf3 (Or.inr (by omega))) (m_O_app hO hs2 hf2 hs3 hf3) (s_fr_tr hf (s_fr_tr (s_fr_w hf2 (by omega) (by omega)) (s_fr_w hf3 (by omega) (by omega))))
  · refine n_const 1 dX12_append_10 (by decide) ?_
    refine r_goto (tgt := 15) dX12_append_11 (by decide) ?_
    refine a_put dX12_append_15 gX12_79 lysX12 rfl rfl rfl (fun s1 hs1 hf1 => ?_)
    have h3 := (congrFun hs1 3).trans pk_us
    have hM := m_R_fr hM hf1 (Or.inr (by omega))
    have hO := m_O_eq hO (m_eq_put hs1 hf1 (by decide))
    have hf := s_fr_tr hf (s_fr_w (lo' := 212) (hi' := 234) hf1 (by omega) (by omega))
    refine r_aload_n dX12_append_18 rfl rfl ?_
    refine s_getI dX12_append_19 fX12_79 lysX12 rfl h3 ?_
    refine n_ifne (tgt := 45) dX12_append_22 (by decide) (by omega) (fun c22 => ?_) (fun c22 => ?_)
    · refine s_vret dX12_append_45 rfl ?_
      first
        | exact m_Pv_s (c := 1) (by unfold A_append; rw [if_pos (by omega)]) h3 hM hO hf
        | exact m_Pv_s (c := 0) (z := z_app z c) (y := 0) (by unfold A_append; rw [if_neg (by omega)]) (by rw [hs3, pk_un (by decide), hf2 212 (by omega)]; exact h3) (m_R_fr (m_R_fr hM hf2 (Or.inl (by omega))) hf3 (Or.inr (by omega))) (m_O_app hO hs2 hf2 hs3 hf3) (s_fr_tr hf (s_fr_tr (s_fr_w hf2 (by omega) (by omega)) (s_fr_w hf3 (by omega) (by omega))))
    · exact absurd c22 (by decide)
