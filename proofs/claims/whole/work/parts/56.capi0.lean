/-! ===== the class: its tests of arguments, what makes jobs and operations ===== -/
theorem s_pt {s s' : s_T} {k e : Nat} {v : Int32} (h : s' k = upd (s k) e v) (hf : s_fr k (k + 1) s s') (a b : Nat) : s' a b = if a = k ∧ b = e then v else s a b := by
  by_cases h1 : a = k
  · subst h1
    rw [h]
    by_cases h2 : b = e
    · subst h2; rw [pk_us, if_pos ⟨rfl, rfl⟩]
    · rw [pk_un h2, if_neg (fun q => h2 q.2)]
  · rw [hf a (by omega), if_neg (fun q => h1 q.1)]
theorem i_0 : (0 : Int32).toInt = 0 := by decide
set_option maxRecDepth 20000 in
set_option maxHeartbeats 1000000 in
theorem c_within {G : q_G} {s : s_T} {x : Int32} {L : Nat} (hL : L < 2 ^ 31) : s_W G mX11_within 1 0 0 (c_I (fun y9 s1 => s1 = s ∧ y9 = bI (iIn x 0 L))) 0 (q_ent mX11_within [.int x, .int (nI L)]) [] s := by
  show s_W G mX11_within 1 0 0 _ 0 [some (.int x), some (.int (nI L))] [] s
  refine r_iload_n dX11_within_0 rfl rfl ?_
  refine r_if_lt (tgt := 13) dX11_within_1 (by decide) (fun c1 => ?_) (fun c1 => ?_)
  · refine n_const 0 dX11_within_13 (by decide) ?_
    refine s_iret dX11_within_14 rfl rfl ?_
    refine ⟨_, rfl, rfl, ?_⟩
    simp only [Int32.lt_iff_toInt_lt, Int32.le_iff_toInt_le, i_0, nI_toInt hL, nI_toInt (show 4 < 2 ^ 31 by decide), nI_toInt (show 3 < 2 ^ 31 by decide), nI_toInt (show 1 < 2 ^ 31 by decide), nI_toInt (show 30 < 2 ^ 31 by decide)] at *
    first
      | (rw [show iIn x 0 L = true from decide_eq_true (by omega)]; rfl)
      | (rw [show iIn x 0 L = false from decide_eq_false (by omega)]; rfl)
  · refine r_iload_n dX11_within_4 rfl rfl ?_
    refine r_iload_n dX11_within_5 rfl rfl ?_
    refine r_icmp_gt (tgt := 13) dX11_within_6 (by decide) (fun c6 => ?_) (fun c6 => ?_)
    · refine n_const 0 dX11_within_13 (by decide) ?_
      refine s_iret dX11_within_14 rfl rfl ?_
      refine ⟨_, rfl, rfl, ?_⟩
      simp only [Int32.lt_iff_toInt_lt, Int32.le_iff_toInt_le, i_0, nI_toInt hL, nI_toInt (show 4 < 2 ^ 31 by decide), nI_toInt (show 3 < 2 ^ 31 by decide), nI_toInt (show 1 < 2 ^ 31 by decide), nI_toInt (show 30 < 2 ^ 31 by decide)] at *
      first
        | (rw [show iIn x 0 L = true from decide_eq_true (by omega)]; rfl)
        | (rw [show iIn x 0 L = false from decide_eq_false (by omega)]; rfl)
    · refine n_const 1 dX11_within_9 (by decide) ?_
      refine r_goto (tgt := 14) dX11_within_10 (by decide) ?_
      refine s_iret dX11_within_14 rfl rfl ?_
      refine ⟨_, rfl, rfl, ?_⟩
      simp only [Int32.lt_iff_toInt_lt, Int32.le_iff_toInt_le, i_0, nI_toInt hL, nI_toInt (show 4 < 2 ^ 31 by decide), nI_toInt (show 3 < 2 ^ 31 by decide), nI_toInt (show 1 < 2 ^ 31 by decide), nI_toInt (show 30 < 2 ^ 31 by decide)] at *
      first
        | (rw [show iIn x 0 L = true from decide_eq_true (by omega)]; rfl)
        | (rw [show iIn x 0 L = false from decide_eq_false (by omega)]; rfl)
set_option maxRecDepth 20000 in
set_option maxHeartbeats 1000000 in
theorem c_isMachine {G : q_G} {s : s_T} {x : Int32} : s_W G mX11_isMachine 1 0 0 (c_I (fun y9 s1 => s1 = s ∧ y9 = bI (iLt x 4))) 0 (q_ent mX11_isMachine [.int x]) [] s := by
  show s_W G mX11_isMachine 1 0 0 _ 0 [some (.int x)] [] s
  refine r_iload_n dX11_isMachine_0 rfl rfl ?_
  refine r_if_lt (tgt := 13) dX11_isMachine_1 (by decide) (fun c1 => ?_) (fun c1 => ?_)
  · refine n_const 0 dX11_isMachine_13 (by decide) ?_
    refine s_iret dX11_isMachine_14 rfl rfl ?_
    refine ⟨_, rfl, rfl, ?_⟩
    simp only [Int32.lt_iff_toInt_lt, Int32.le_iff_toInt_le, i_0, nI_toInt (show 4 < 2 ^ 31 by decide), nI_toInt (show 3 < 2 ^ 31 by decide), nI_toInt (show 1 < 2 ^ 31 by decide), nI_toInt (show 30 < 2 ^ 31 by decide)] at *
    first
      | (rw [show iLt x 4 = true from decide_eq_true (by omega)]; rfl)
      | (rw [show iLt x 4 = false from decide_eq_false (by omega)]; rfl)
  · refine r_iload_n dX11_isMachine_4 rfl rfl ?_
    refine n_const 4 dX11_isMachine_5 (by decide) ?_
    refine r_icmp_ge (tgt := 13) dX11_isMachine_6 (by decide) (fun c6 => ?_) (fun c6 => ?_)
    · refine n_const 0 dX11_isMachine_13 (by decide) ?_
      refine s_iret dX11_isMachine_14 rfl rfl ?_
      refine ⟨_, rfl, rfl, ?_⟩
      simp only [Int32.lt_iff_toInt_lt, Int32.le_iff_toInt_le, i_0, nI_toInt (show 4 < 2 ^ 31 by decide), nI_toInt (show 3 < 2 ^ 31 by decide), nI_toInt (show 1 < 2 ^ 31 by decide), nI_toInt (show 30 < 2 ^ 31 by decide)] at *
      first
        | (rw [show iLt x 4 = true from decide_eq_true (by omega)]; rfl)
        | (rw [show iLt x 4 = false from decide_eq_false (by omega)]; rfl)
    · refine n_const 1 dX11_isMachine_9 (by decide) ?_
      refine r_goto (tgt := 14) dX11_isMachine_10 (by decide) ?_
      refine s_iret dX11_isMachine_14 rfl rfl ?_
      refine ⟨_, rfl, rfl, ?_⟩
      simp only [Int32.lt_iff_toInt_lt, Int32.le_iff_toInt_le, i_0, nI_toInt (show 4 < 2 ^ 31 by decide), nI_toInt (show 3 < 2 ^ 31 by decide), nI_toInt (show 1 < 2 ^ 31 by decide), nI_toInt (show 30 < 2 ^ 31 by decide)] at *
      first
        | (rw [show iLt x 4 = true from decide_eq_true (by omega)]; rfl)
        | (rw [show iLt x 4 = false from decide_eq_false (by omega)]; rfl)
set_option maxRecDepth 20000 in
set_option maxHeartbeats 1000000 in
theorem c_isFamily {G : q_G} {s : s_T} {x : Int32} : s_W G mX11_isFamily 1 0 0 (c_I (fun y9 s1 => s1 = s ∧ y9 = bI (iLt x 3))) 0 (q_ent mX11_isFamily [.int x]) [] s := by
  show s_W G mX11_isFamily 1 0 0 _ 0 [some (.int x)] [] s
  refine r_iload_n dX11_isFamily_0 rfl rfl ?_
  refine r_if_lt (tgt := 13) dX11_isFamily_1 (by decide) (fun c1 => ?_) (fun c1 => ?_)
  · refine n_const 0 dX11_isFamily_13 (by decide) ?_
    refine s_iret dX11_isFamily_14 rfl rfl ?_
    refine ⟨_, rfl, rfl, ?_⟩
    simp only [Int32.lt_iff_toInt_lt, Int32.le_iff_toInt_le, i_0, nI_toInt (show 4 < 2 ^ 31 by decide), nI_toInt (show 3 < 2 ^ 31 by decide), nI_toInt (show 1 < 2 ^ 31 by decide), nI_toInt (show 30 < 2 ^ 31 by decide)] at *
    first
      | (rw [show iLt x 3 = true from decide_eq_true (by omega)]; rfl)
      | (rw [show iLt x 3 = false from decide_eq_false (by omega)]; rfl)
  · refine r_iload_n dX11_isFamily_4 rfl rfl ?_
    refine n_const 3 dX11_isFamily_5 (by decide) ?_
    refine r_icmp_ge (tgt := 13) dX11_isFamily_6 (by decide) (fun c6 => ?_) (fun c6 => ?_)
    · refine n_const 0 dX11_isFamily_13 (by decide) ?_
      refine s_iret dX11_isFamily_14 rfl rfl ?_
      refine ⟨_, rfl, rfl, ?_⟩
      simp only [Int32.lt_iff_toInt_lt, Int32.le_iff_toInt_le, i_0, nI_toInt (show 4 < 2 ^ 31 by decide), nI_toInt (show 3 < 2 ^ 31 by decide), nI_toInt (show 1 < 2 ^ 31 by decide), nI_toInt (show 30 < 2 ^ 31 by decide)] at *
      first
        | (rw [show iLt x 3 = true from decide_eq_true (by omega)]; rfl)
        | (rw [show iLt x 3 = false from decide_eq_false (by omega)]; rfl)
    · refine n_const 1 dX11_isFamily_9 (by decide) ?_
      refine r_goto (tgt := 14) dX11_isFamily_10 (by decide) ?_
      refine s_iret dX11_isFamily_14 rfl rfl ?_
      refine ⟨_, rfl, rfl, ?_⟩
      simp only [Int32.lt_iff_toInt_lt, Int32.le_iff_toInt_le, i_0, nI_toInt (show 4 < 2 ^ 31 by decide), nI_toInt (show 3 < 2 ^ 31 by decide), nI_toInt (show 1 < 2 ^ 31 by decide), nI_toInt (show 30 < 2 ^ 31 by decide)] at *
      first
        | (rw [show iLt x 3 = true from decide_eq_true (by omega)]; rfl)
        | (rw [show iLt x 3 = false from decide_eq_false (by omega)]; rfl)
set_option maxRecDepth 20000 in
set_option maxHeartbeats 1000000 in
theorem c_durationFits {G : q_G} {s : s_T} {x : Int32} : s_W G mX11_durationFits 1 0 0 (c_I (fun y9 s1 => s1 = s ∧ y9 = bI (iIn x 1 30))) 0 (q_ent mX11_durationFits [.int x]) [] s := by
  show s_W G mX11_durationFits 1 0 0 _ 0 [some (.int x)] [] s
  refine r_iload_n dX11_durationFits_0 rfl rfl ?_
  refine n_const 1 dX11_durationFits_1 (by decide) ?_
  refine r_icmp_lt (tgt := 15) dX11_durationFits_2 (by decide) (fun c2 => ?_) (fun c2 => ?_)
  · refine n_const 0 dX11_durationFits_15 (by decide) ?_
    refine s_iret dX11_durationFits_16 rfl rfl ?_
    refine ⟨_, rfl, rfl, ?_⟩
    simp only [Int32.lt_iff_toInt_lt, Int32.le_iff_toInt_le, i_0, nI_toInt (show 4 < 2 ^ 31 by decide), nI_toInt (show 3 < 2 ^ 31 by decide), nI_toInt (show 1 < 2 ^ 31 by decide), nI_toInt (show 30 < 2 ^ 31 by decide)] at *
    first
      | (rw [show iIn x 1 30 = true from decide_eq_true (by omega)]; rfl)
      | (rw [show iIn x 1 30 = false from decide_eq_false (by omega)]; rfl)
  · refine r_iload_n dX11_durationFits_5 rfl rfl ?_
    refine n_bip 30 dX11_durationFits_6 (by decide) ?_
    refine r_icmp_gt (tgt := 15) dX11_durationFits_8 (by decide) (fun c8 => ?_) (fun c8 => ?_)
    · refine n_const 0 dX11_durationFits_15 (by decide) ?_
      refine s_iret dX11_durationFits_16 rfl rfl ?_
      refine ⟨_, rfl, rfl, ?_⟩
      simp only [Int32.lt_iff_toInt_lt, Int32.le_iff_toInt_le, i_0, nI_toInt (show 4 < 2 ^ 31 by decide), nI_toInt (show 3 < 2 ^ 31 by decide), nI_toInt (show 1 < 2 ^ 31 by decide), nI_toInt (show 30 < 2 ^ 31 by decide)] at *
      first
        | (rw [show iIn x 1 30 = true from decide_eq_true (by omega)]; rfl)
        | (rw [show iIn x 1 30 = false from decide_eq_false (by omega)]; rfl)
    · refine n_const 1 dX11_durationFits_11 (by decide) ?_
      refine r_goto (tgt := 16) dX11_durationFits_12 (by decide) ?_
      refine s_iret dX11_durationFits_16 rfl rfl ?_
      refine ⟨_, rfl, rfl, ?_⟩
      simp only [Int32.lt_iff_toInt_lt, Int32.le_iff_toInt_le, i_0, nI_toInt (show 4 < 2 ^ 31 by decide), nI_toInt (show 3 < 2 ^ 31 by decide), nI_toInt (show 1 < 2 ^ 31 by decide), nI_toInt (show 30 < 2 ^ 31 by decide)] at *
      first
        | (rw [show iIn x 1 30 = true from decide_eq_true (by omega)]; rfl)
        | (rw [show iIn x 1 30 = false from decide_eq_false (by omega)]; rfl)
set_option maxRecDepth 20000 in
set_option maxHeartbeats 1000000 in
theorem c_jobFits {G : q_G} {s : s_T} {r u w : Int32} : s_W G mX11_jobFits 2 0 0 (c_I (fun y9 s1 => s1 = s ∧ y9 = bI (iIn r 0 99 && iIn u 0 200 && iIn w 0 9))) 0 (q_ent mX11_jobFits [.int r, .int u, .int w]) [] s := by
  show s_W G mX11_jobFits 2 0 0 _ 0 [some (.int r), some (.int u), some (.int w)] [] s
  refine r_iload_n dX11_jobFits_0 rfl rfl ?_
  refine r_gets dX11_jobFits_1 kG_141 ?_
  refine n_const 0 dX11_jobFits_4 (by decide) ?_
  refine l_ld dX11_jobFits_5 (by omega) ?_
  refine s_S2I mX11_within dX11_jobFits_6 okX11_within lX11_138 npX11_within (by decide) (by decide) (by decide) (Nat.le_of_ble_eq_true rfl) (Nat.le_of_ble_eq_true rfl) (c_within (by decide)) (fun x s1 hq => ?_)
  obtain ⟨rfl, rfl⟩ := hq
  refine b_ifeq (tgt := 40) dX11_jobFits_9 (by decide) (fun c9 => ?_) (fun c9 => ?_)
  · refine n_const 0 dX11_jobFits_40 (by decide) ?_
    refine s_iret dX11_jobFits_41 rfl rfl ?_
    refine ⟨_, rfl, rfl, ?_⟩
    show _ = bI (iIn r 0 (x_jl 0) && iIn u 0 (x_jl 1) && iIn w 0 (x_jl 2))
    simp [*, bI]
  · refine r_iload_n dX11_jobFits_12 rfl rfl ?_
    refine r_gets dX11_jobFits_13 kG_141 ?_
    refine n_const 1 dX11_jobFits_16 (by decide) ?_
    refine l_ld dX11_jobFits_17 (by omega) ?_
    refine s_S2I mX11_within dX11_jobFits_18 okX11_within lX11_138 npX11_within (by decide) (by decide) (by decide) (Nat.le_of_ble_eq_true rfl) (Nat.le_of_ble_eq_true rfl) (c_within (by decide)) (fun x s1 hq => ?_)
    obtain ⟨rfl, rfl⟩ := hq
    refine b_ifeq (tgt := 40) dX11_jobFits_21 (by decide) (fun c21 => ?_) (fun c21 => ?_)
    · refine n_const 0 dX11_jobFits_40 (by decide) ?_
      refine s_iret dX11_jobFits_41 rfl rfl ?_
      refine ⟨_, rfl, rfl, ?_⟩
      show _ = bI (iIn r 0 (x_jl 0) && iIn u 0 (x_jl 1) && iIn w 0 (x_jl 2))
      simp [*, bI]
    · refine r_iload_n dX11_jobFits_24 rfl rfl ?_
      refine r_gets dX11_jobFits_25 kG_141 ?_
      refine n_const 2 dX11_jobFits_28 (by decide) ?_
      refine l_ld dX11_jobFits_29 (by omega) ?_
      refine s_S2I mX11_within dX11_jobFits_30 okX11_within lX11_138 npX11_within (by decide) (by decide) (by decide) (Nat.le_of_ble_eq_true rfl) (Nat.le_of_ble_eq_true rfl) (c_within (by decide)) (fun x s1 hq => ?_)
      obtain ⟨rfl, rfl⟩ := hq
      refine b_ifeq (tgt := 40) dX11_jobFits_33 (by decide) (fun c33 => ?_) (fun c33 => ?_)
      · refine n_const 0 dX11_jobFits_40 (by decide) ?_
        refine s_iret dX11_jobFits_41 rfl rfl ?_
        refine ⟨_, rfl, rfl, ?_⟩
        show _ = bI (iIn r 0 (x_jl 0) && iIn u 0 (x_jl 1) && iIn w 0 (x_jl 2))
        simp [*, bI]
      · refine n_const 1 dX11_jobFits_36 (by decide) ?_
        refine r_goto (tgt := 41) dX11_jobFits_37 (by decide) ?_
        refine s_iret dX11_jobFits_41 rfl rfl ?_
        refine ⟨_, rfl, rfl, ?_⟩
        show _ = bI (iIn r 0 (x_jl 0) && iIn u 0 (x_jl 1) && iIn w 0 (x_jl 2))
        simp [*, bI]
/-- a test that throws -/
def c_rq (b : Bool) (E : String) (s : s_T) : q_R → s_T → Prop := fun r s1 => s1 = s ∧ (b = true → r = .inl none) ∧ (b = false → r = .inr E)
theorem c_rq_t {b : Bool} {E : String} {s s1 : s_T} {v : Option Value} (h : c_rq b E s (.inl v) s1) : s1 = s ∧ b = true ∧ v = none := by
  obtain ⟨h1, h2, h3⟩ := h
  cases b with
  | true => exact ⟨h1, rfl, by have := h2 rfl; cases this; rfl⟩
  | false => have := h3 rfl; cases this
theorem c_rq_f {b : Bool} {E E' : String} {s s1 : s_T} (h : c_rq b E s (.inr E') s1) : s1 = s ∧ b = false ∧ E' = E := by
  obtain ⟨h1, h2, h3⟩ := h
  cases b with
  | true => have := h2 rfl; cases this
  | false => exact ⟨h1, rfl, by have := h3 rfl; cases this; rfl⟩
set_option maxRecDepth 20000 in
set_option maxHeartbeats 1000000 in
theorem c_requireMachine {G : q_G} {s : s_T} {x : Int32} : s_W G mX11_requireMachine 6 1 6 (c_rq (iLt x 4) q_IO s) 0 (q_ent mX11_requireMachine [.int x]) [] s := by
  show s_W G mX11_requireMachine 6 1 6 _ 0 [some (.int x)] [] s
  refine r_iload_n dX11_requireMachine_0 rfl rfl ?_
  refine s_S1I mX11_isMachine dX11_requireMachine_1 okX11_isMachine lX11_391 npX11_isMachine (by decide) (by decide) (by decide) (Nat.le_of_ble_eq_true rfl) (Nat.le_of_ble_eq_true rfl) c_isMachine (fun x s1 hq => ?_)
  obtain ⟨rfl, rfl⟩ := hq
  refine b_ifne (tgt := 18) dX11_requireMachine_4 (by decide) (fun c4 => ?_) (fun c4 => ?_)
  · refine s_vret dX11_requireMachine_18 rfl ?_
    exact ⟨rfl, fun _ => rfl, fun q => by rw [c4] at q; cases q⟩
  · refine s_throwSW dX11_requireMachine_7 dX11_requireMachine_10 dX11_requireMachine_11 dX11_requireMachine_14 dX11_requireMachine_17 thrX11_394_163 rfl (by decide) (by decide) (by decide) (Nat.le_of_ble_eq_true rfl) ?_
    exact ⟨rfl, fun q => (by rw [c4] at q; cases q), fun _ => rfl⟩
set_option maxRecDepth 20000 in
set_option maxHeartbeats 1000000 in
theorem c_requireRule {G : q_G} {s : s_T} {x : Int32} : s_W G mX11_requireRule 6 1 6 (c_rq (iIn x 0 3) q_IA s) 0 (q_ent mX11_requireRule [.int x]) [] s := by
  show s_W G mX11_requireRule 6 1 6 _ 0 [some (.int x)] [] s
  refine r_iload_n dX11_requireRule_0 rfl rfl ?_
  refine n_const 3 dX11_requireRule_1 (by decide) ?_
  refine s_S2I mX11_within dX11_requireRule_2 okX11_within lX11_138 npX11_within (by decide) (by decide) (by decide) (Nat.le_of_ble_eq_true rfl) (Nat.le_of_ble_eq_true rfl) (c_within (by decide)) (fun x s1 hq => ?_)
  obtain ⟨rfl, rfl⟩ := hq
  refine b_ifne (tgt := 19) dX11_requireRule_5 (by decide) (fun c5 => ?_) (fun c5 => ?_)
  · refine s_vret dX11_requireRule_19 rfl ?_
    exact ⟨rfl, fun _ => rfl, fun q => by rw [c5] at q; cases q⟩
  · refine s_throwSW dX11_requireRule_8 dX11_requireRule_11 dX11_requireRule_12 dX11_requireRule_15 dX11_requireRule_18 thrX11_396_96 rfl (by decide) (by decide) (by decide) (Nat.le_of_ble_eq_true rfl) ?_
    exact ⟨rfl, fun q => (by rw [c5] at q; cases q), fun _ => rfl⟩
set_option maxRecDepth 20000 in
set_option maxHeartbeats 1000000 in
theorem c_requireJob {G : q_G} {s : s_T} {X : x_T} {x : Int32} (hC : c_R X s 1) (hw : x_wf X) : s_W G mX11_requireJob 6 1 6 (c_rq (iLt x (X 0)) q_IO s) 0 (q_ent mX11_requireJob [.ref 0, .int x]) [] s := by
  show s_W G mX11_requireJob 6 1 6 _ 0 [some (.ref 0), some (.int x)] [] s
  have hs := x_sz hw
  refine r_iload_n dX11_requireJob_0 rfl rfl ?_
  refine r_if_lt (tgt := 15) dX11_requireJob_1 (by decide) (fun c1 => ?_) (fun c1 => ?_)
  · refine s_throwSW dX11_requireJob_15 dX11_requireJob_18 dX11_requireJob_19 dX11_requireJob_22 dX11_requireJob_25 thrX11_398_163 rfl (by decide) (by decide) (by decide) (Nat.le_of_ble_eq_true rfl) ?_
    have e : iLt x (X 0) = false := by
      simp only [Int32.lt_iff_toInt_lt, Int32.le_iff_toInt_le, i_0, nI_toInt (show X 0 < 2 ^ 31 by omega)] at *
      exact decide_eq_false (by omega)
    exact ⟨rfl, fun q => (by rw [e] at q; cases q), fun _ => rfl⟩
  · refine r_iload_n dX11_requireJob_4 rfl rfl ?_
    refine r_aload_n dX11_requireJob_5 rfl rfl ?_
    refine s_getR dX11_requireJob_6 fX11_10 lysX11 rfl ?_
    refine s_getI dX11_requireJob_9 fX11_99 (layX7 isX7_1) rfl (cl_jobs hC) ?_
    refine r_icmp_lt (tgt := 26) dX11_requireJob_12 (by decide) (fun c12 => ?_) (fun c12 => ?_)
    · refine s_vret dX11_requireJob_26 rfl ?_
      have e : iLt x (X 0) = true := by
        simp only [Int32.lt_iff_toInt_lt, Int32.le_iff_toInt_le, i_0, nI_toInt (show X 0 < 2 ^ 31 by omega)] at *
        exact decide_eq_true (by omega)
      exact ⟨rfl, fun _ => rfl, fun q => by rw [e] at q; cases q⟩
    · refine s_throwSW dX11_requireJob_15 dX11_requireJob_18 dX11_requireJob_19 dX11_requireJob_22 dX11_requireJob_25 thrX11_398_163 rfl (by decide) (by decide) (by decide) (Nat.le_of_ble_eq_true rfl) ?_
      have e : iLt x (X 0) = false := by
        simp only [Int32.lt_iff_toInt_lt, Int32.le_iff_toInt_le, i_0, nI_toInt (show X 0 < 2 ^ 31 by omega)] at *
        exact decide_eq_false (by omega)
      exact ⟨rfl, fun q => (by rw [e] at q; cases q), fun _ => rfl⟩
set_option maxRecDepth 20000 in
set_option maxHeartbeats 1000000 in
theorem c_requireOperation {G : q_G} {s : s_T} {X : x_T} {x : Int32} (hC : c_R X s 1) (hw : x_wf X) : s_W G mX11_requireOperation 6 1 6 (c_rq (iLt x (X 1)) q_IO s) 0 (q_ent mX11_requireOperation [.ref 0, .int x]) [] s := by
  show s_W G mX11_requireOperation 6 1 6 _ 0 [some (.ref 0), some (.int x)] [] s
  have hs := x_sz hw
  refine r_iload_n dX11_requireOperation_0 rfl rfl ?_
  refine r_if_lt (tgt := 15) dX11_requireOperation_1 (by decide) (fun c1 => ?_) (fun c1 => ?_)
  · refine s_throwSW dX11_requireOperation_15 dX11_requireOperation_18 dX11_requireOperation_19 dX11_requireOperation_22 dX11_requireOperation_25 thrX11_400_163 rfl (by decide) (by decide) (by decide) (Nat.le_of_ble_eq_true rfl) ?_
    have e : iLt x (X 1) = false := by
      simp only [Int32.lt_iff_toInt_lt, Int32.le_iff_toInt_le, i_0, nI_toInt (show X 1 < 2 ^ 31 by omega)] at *
      exact decide_eq_false (by omega)
    exact ⟨rfl, fun q => (by rw [e] at q; cases q), fun _ => rfl⟩
  · refine r_iload_n dX11_requireOperation_4 rfl rfl ?_
    refine r_aload_n dX11_requireOperation_5 rfl rfl ?_
    refine s_getR dX11_requireOperation_6 fX11_10 lysX11 rfl ?_
    refine s_getI dX11_requireOperation_9 fX11_181 (layX7 isX7_1) rfl (cl_ops hC) ?_
    refine r_icmp_lt (tgt := 26) dX11_requireOperation_12 (by decide) (fun c12 => ?_) (fun c12 => ?_)
    · refine s_vret dX11_requireOperation_26 rfl ?_
      have e : iLt x (X 1) = true := by
        simp only [Int32.lt_iff_toInt_lt, Int32.le_iff_toInt_le, i_0, nI_toInt (show X 1 < 2 ^ 31 by omega)] at *
        exact decide_eq_true (by omega)
      exact ⟨rfl, fun _ => rfl, fun q => by rw [e] at q; cases q⟩
    · refine s_throwSW dX11_requireOperation_15 dX11_requireOperation_18 dX11_requireOperation_19 dX11_requireOperation_22 dX11_requireOperation_25 thrX11_400_163 rfl (by decide) (by decide) (by decide) (Nat.le_of_ble_eq_true rfl) ?_
      have e : iLt x (X 1) = false := by
        simp only [Int32.lt_iff_toInt_lt, Int32.le_iff_toInt_le, i_0, nI_toInt (show X 1 < 2 ^ 31 by omega)] at *
        exact decide_eq_false (by omega)
      exact ⟨rfl, fun q => (by rw [e] at q; cases q), fun _ => rfl⟩
