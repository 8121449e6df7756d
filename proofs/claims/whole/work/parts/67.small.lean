/-! ===== failure, append, tabuSteps, bottleneck, order ===== -/
def A_failure (z : z_T) (d : Int32) : a_T := if 0 ≤ d.toInt then (0, (if d.toInt < (z 2 2 : Int) then nI (z 4 (iN d)) else if d = 0 then 0 else -1), z) else (1, 0, z)
def z_app (z : z_T) (c : Nat) : z_T := va_up (va_up z 2 (va_up (z 2) 1 (z 2 1 + 1))) 3 (va_up (z 3) (z 2 1) c)
def A_append (z : z_T) (c : Nat) : a_T := if z 2 1 = 80 then (1, 0, z) else (0, 0, z_app z c)
def A_tabuSteps (z : z_T) : a_T := (0, nI (z 2 4), z)
def A_bottleneck (z : z_T) (i : Int32) : a_T := if z 2 3 = 1 ∧ iLt i 4 = true then (0, nI (z 5 (iN i)), z) else (1, 0, z)
/-- calls that answer nothing -/
def c_Pv (es : List String) (a : a_T) (s : s_T) : q_R → s_T → Prop := fun r s1 => (a.1 = 0 → r = .inl none) ∧ (a.1 ≠ 0 → ∃ E, es[a.1 - 1]? = some E ∧ r = .inr E) ∧ c_Z a.2.2 s1 ∧ s_fr 0 212 s s1
def m_Pv (a : a_T) (s : s_T) : q_R → s_T → Prop := c_V (fun s1 => s1 212 3 = nI a.1 ∧ m_Z a.2.2 s1 ∧ s_fr 212 234 s s1)
theorem c_Pv_e {es : List String} {a : a_T} {z : z_T} {E : String} (c : Nat) {s s1 : s_T} (e : a = (c, 0, z)) (hc : c ≠ 0) (hE : es[c - 1]? = some E) (hZ : c_Z z s1) (hf : s_fr 0 212 s s1) : c_Pv es a s (.inr E) s1 := by
  subst e
  exact ⟨fun q => absurd q hc, fun _ => ⟨E, hE, rfl⟩, hZ, hf⟩
theorem c_Pv_s {es : List String} {a : a_T} {z : z_T} {y : Int32} {s s1 : s_T} (e : a = (0, y, z)) (hZ : c_Z z s1) (hf : s_fr 0 212 s s1) : c_Pv es a s (.inl none) s1 := by
  subst e
  exact ⟨fun _ => rfl, fun q => absurd rfl q, hZ, hf⟩
theorem m_Pv_s {a : a_T} {z : z_T} {y : Int32} {c : Nat} {s s1 : s_T} (e : a = (c, y, z)) (h3 : s1 212 3 = nI c) (hM : m_R (z 0) s1) (hO : m_O z s1) (hf : s_fr 212 234 s s1) : m_Pv a s (.inl none) s1 := by
  subst e
  exact ⟨rfl, h3, ⟨hM, hO⟩, hf⟩
theorem nar_c {c : Nat} (h : c < 65536) : vp_nar .char (nI c) = nI c := by unfold vp_nar; rw [(pk_charN h).1]
theorem c_contains2 {G : q_G} {s : s_T} {X : x_T} {q m : Nat} {x : Int32} (hq : isX5 q) (hO : c_O X s q) (hm : m < 4) (h5 : X (179 + m) ≤ 5) : s_W G mX5_contains 1 0 0 (c_I (fun y9 s1 => s1 = s ∧ y9 = bI (iLt x (X (179 + m))))) 0 (q_ent mX5_contains [.ref q, .int (nI m), .int x]) [] s := by
  have h := c_contains (G := G) (x := x) hq hO hm
  have e : decide (0 ≤ x ∧ x < nI (X (179 + m))) = iLt x (X (179 + m)) := decide_eq_decide.mpr (by rw [Int32.lt_iff_toInt_lt, Int32.le_iff_toInt_le, i_0, nI_toInt (by omega)])
  rw [← e]
  exact h
theorem i_ge0 {x : Int32} (h : 0 ≤ x.toInt) : x = nI (iN x) ∧ iN x < 2 ^ 31 := ⟨(nI_iN h).symm, by have := Int32.toInt_lt x; unfold iN; omega⟩
set_option maxRecDepth 20000 in
set_option maxHeartbeats 1000000 in
theorem c_codeAt {G : q_G} {s : s_T} {z : z_T} {n : Nat} (hn : n < 2 ^ 31) (h0 : s 210 0 = nI (z 2 2)) (h4 : z 2 2 ≤ 4) (h1 : ∀ k, k < z 2 2 → s 211 k = nI (z 4 k)) : s_W G mX4_codeAt 1 0 0 (c_I (fun y9 s1 => s1 = s ∧ y9 = (if n < z 2 2 then nI (z 4 n) else if nI n = 0 then 0 else -1))) 0 (q_ent mX4_codeAt [.ref 210, .int (nI n)]) [] s := by
  show s_W G mX4_codeAt 1 0 0 _ 0 [some (.ref 210), some (.int (nI n))] [] s
  refine r_iload_n dX4_codeAt_0 rfl rfl ?_
  refine r_aload_n dX4_codeAt_1 rfl rfl ?_
  refine s_getI dX4_codeAt_2 fX4_15 lysX4 rfl h0 ?_
  refine n_cge (tgt := 15) dX4_codeAt_5 (by decide) (by omega) (by omega) (fun c5 => ?_) (fun c5 => ?_)
  · refine r_iload_n dX4_codeAt_15 rfl rfl ?_
    refine n_ifne (tgt := 23) dX4_codeAt_16 (by decide) (by omega) (fun c16 => ?_) (fun c16 => ?_)
    · refine r_iconst (v := -1) dX4_codeAt_23 (by decide) ?_
      refine s_iret dX4_codeAt_24 rfl rfl ?_
      refine ⟨_, rfl, rfl, ?_⟩
      first
        | (rw [if_pos (by omega)])
        | (rw [if_neg (by omega), if_pos (by subst c16; rfl)]; rfl)
        | (rw [if_neg (by omega), if_neg (fun q => by have := (nI_eq (a := n) (b := 0) (by omega) (by decide)).mp q; omega)])
    · refine n_const 0 dX4_codeAt_19 (by decide) ?_
      refine r_goto (tgt := 24) dX4_codeAt_20 (by decide) ?_
      refine s_iret dX4_codeAt_24 rfl rfl ?_
      refine ⟨_, rfl, rfl, ?_⟩
      first
        | (rw [if_pos (by omega)])
        | (rw [if_neg (by omega), if_pos (by subst c16; rfl)]; rfl)
        | (rw [if_neg (by omega), if_neg (fun q => by have := (nI_eq (a := n) (b := 0) (by omega) (by decide)).mp q; omega)])
  · refine r_aload_n dX4_codeAt_8 rfl rfl ?_
    refine s_getR dX4_codeAt_9 fX4_9 lysX4 rfl ?_
    refine r_iload_n dX4_codeAt_12 rfl rfl ?_
    refine a_ld dX4_codeAt_13 rfl (by omega) (by decide) (h1 _ (by omega)) ?_
    refine s_iret dX4_codeAt_14 rfl rfl ?_
    refine ⟨_, rfl, rfl, ?_⟩
    first
      | (rw [if_pos (by omega)])
      | (rw [if_neg (by omega), if_pos (by subst c16; rfl)]; rfl)
      | (rw [if_neg (by omega), if_neg (fun q => by have := (nI_eq (a := n) (b := 0) (by omega) (by decide)).mp q; omega)])
set_option maxRecDepth 20000 in
set_option maxHeartbeats 1000000 in
theorem c_failure {G : q_G} {s : s_T} {z : z_T} (hz : z_wf z) (hZ : c_Z z s) {x : Int32} : s_W G mX11_failure 8 2 12 (c_P [q_IA] (A_failure z x) s) 0 (q_ent mX11_failure [.ref 0, .int x]) [] s := by
  show s_W G mX11_failure 8 2 12 _ 0 [some (.ref 0), some (.int x)] [] s
  have hw := hz.1.1
  have hs := x_sz hw
  have hC := hZ.1
  have hf : s_fr 0 212 s s := s_fr_rf
  have ho : isX7 1 := Or.inl rfl
  refine r_iload_n dX11_failure_0 rfl rfl ?_
  refine r_if_ge (tgt := 15) dX11_failure_1 (by decide) (fun c1 => ?_) (fun c1 => ?_)
  · have hx : 0 ≤ x.toInt := by simp only [Int32.lt_iff_toInt_lt, Int32.le_iff_toInt_le, i_0] at *; omega
    obtain ⟨hx1, hx2⟩ := i_ge0 hx
    obtain ⟨n, hn⟩ : ∃ n, n = iN x := ⟨_, rfl⟩
    rw [← hn] at hx1 hx2
    subst hx1
    have hn2 := hx2
    have e9 : A_failure z (nI n) = (0, (if n < z 2 2 then nI (z 4 n) else if nI n = 0 then 0 else -1), z) := by
      unfold A_failure
      rw [nI_toInt hn2, if_pos (by omega), iN_n hn2]
      by_cases q : n < z 2 2
      · rw [if_pos (by omega), if_pos q]
      · rw [if_neg (by omega), if_neg q]
    refine r_aload_n dX11_failure_15 rfl rfl ?_
    refine s_getR dX11_failure_16 fX11_84 lysX11 rfl ?_
    refine r_iload_n dX11_failure_19 rfl rfl ?_
    refine s_V1I mX4_codeAt dX11_failure_20 okX4_codeAt lX11_381 npX4_codeAt lysX4 rfl (by decide) (by decide) (by decide) (Nat.le_of_ble_eq_true rfl) (Nat.le_of_ble_eq_true rfl) (c_codeAt hn2 hZ.2.2.2.2.2.2.2.1 hz.2.2.2.2.1.1 hZ.2.2.2.2.2.2.2.2.1) (fun x s1 hq => ?_)
    obtain ⟨rfl, rfl⟩ := hq
    refine s_iret dX11_failure_23 rfl rfl ?_
    exact c_P_s e9 hZ hf
  · have hx : ¬ 0 ≤ x.toInt := by simp only [Int32.lt_iff_toInt_lt, Int32.le_iff_toInt_le, i_0] at *; omega
    refine s_throwSW dX11_failure_4 dX11_failure_7 dX11_failure_8 dX11_failure_11 dX11_failure_14 thrX11_379_96 rfl (by decide) (by decide) (by decide) (Nat.le_of_ble_eq_true rfl) ?_
    exact c_P_e 1 (by unfold A_failure; rw [if_neg hx]) (by decide) rfl hZ hf
set_option maxRecDepth 20000 in
set_option maxHeartbeats 1000000 in
theorem m_failure {G : q_G} {s : s_T} {z : z_T} (hz : z_wf z) (hM : m_R (z 0) s) (hO : m_O z s) {x : Int32} : s_W G mX12_failure 8 0 0 (m_P (A_failure z x) s) 0 (q_ent mX12_failure [.ref 212, .int x]) [] s := by
  show s_W G mX12_failure 8 0 0 _ 0 [some (.ref 212), some (.int x)] [] s
  have hw := hz.1.1
  have hs := x_sz hw
  have hf : s_fr 212 234 s s := s_fr_rf
  refine r_aload_n dX12_failure_0 rfl rfl ?_
  refine r_iload_n dX12_failure_1 rfl rfl ?_
  refine r_if_ge (tgt := 9) dX12_failure_2 (by decide) (fun c2 => ?_) (fun c2 => ?_)
  · have hx : 0 ≤ x.toInt := by simp only [Int32.lt_iff_toInt_lt, Int32.le_iff_toInt_le, i_0] at *; omega
    obtain ⟨hx1, hx2⟩ := i_ge0 hx
    obtain ⟨n, hn⟩ : ∃ n, n = iN x := ⟨_, rfl⟩
    rw [← hn] at hx1 hx2
    subst hx1
    have hn2 := hx2
    have e9 : A_failure z (nI n) = (0, (if n < z 2 2 then nI (z 4 n) else if nI n = 0 then 0 else -1), z) := by
      unfold A_failure
      rw [nI_toInt hn2, if_pos (by omega), iN_n hn2]
      by_cases q : n < z 2 2
      · rw [if_pos (by omega), if_pos q]
      · rw [if_neg (by omega), if_neg q]
    have h4 := hz.2.2.2.2.1.1
    refine n_const 0 dX12_failure_9 (by decide) ?_
    refine a_put dX12_failure_10 gX12_79 lysX12 rfl rfl rfl (fun s1 hs1 hf1 => ?_)
    have h3 := (congrFun hs1 3).trans pk_us
    have hM := m_R_fr hM hf1 (Or.inr (by omega))
    have hO := m_O_eq hO (m_eq_put hs1 hf1 (by decide))
    have hf := s_fr_tr hf (s_fr_w (lo' := 212) (hi' := 234) hf1 (by omega) (by omega))
    refine r_aload_n dX12_failure_13 rfl rfl ?_
    refine s_getI dX12_failure_14 fX12_79 lysX12 rfl h3 ?_
    refine n_ifle (tgt := 22) dX12_failure_17 (by decide) (by omega) (fun c17 => ?_) (fun c17 => ?_)
    · refine r_iload_n dX12_failure_22 rfl rfl ?_
      refine r_aload_n dX12_failure_23 rfl rfl ?_
      refine s_getI dX12_failure_24 fX12_214 lysX12 rfl hO.2.2.2.2.1 ?_
      refine n_cge (tgt := 39) dX12_failure_27 (by decide) (by omega) (by omega) (fun c27 => ?_) (fun c27 => ?_)
      · refine r_iload_n dX12_failure_39 rfl rfl ?_
        refine n_ifne (tgt := 47) dX12_failure_40 (by decide) (by omega) (fun c40 => ?_) (fun c40 => ?_)
        · refine r_iconst (v := -1) dX12_failure_47 (by decide) ?_
          refine s_iret dX12_failure_48 rfl rfl ?_
          first
            | exact m_P_e (by unfold A_failure; rw [if_neg hx]) (by decide) h3 hM hO hf
            | (rw [if_pos (by omega)] at e9; exact m_P_s e9 h3 hM hO hf)
            | (rw [if_neg (by omega), if_pos (by subst c40; rfl)] at e9; exact m_P_s e9 h3 hM hO hf)
            | (rw [if_neg (by omega), if_neg (fun q => by have := (nI_eq (a := n) (b := 0) (by omega) (by decide)).mp q; omega)] at e9; exact m_P_s e9 h3 hM hO hf)
        · refine n_const 0 dX12_failure_43 (by decide) ?_
          refine r_goto (tgt := 48) dX12_failure_44 (by decide) ?_
          refine s_iret dX12_failure_48 rfl rfl ?_
          first
            | exact m_P_e (by unfold A_failure; rw [if_neg hx]) (by decide) h3 hM hO hf
            | (rw [if_pos (by omega)] at e9; exact m_P_s e9 h3 hM hO hf)
            | (rw [if_neg (by omega), if_pos (by subst c40; rfl)] at e9; exact m_P_s e9 h3 hM hO hf)
            | (rw [if_neg (by omega), if_neg (fun q => by have := (nI_eq (a := n) (b := 0) (by omega) (by decide)).mp q; omega)] at e9; exact m_P_s e9 h3 hM hO hf)
      · refine r_aload_n dX12_failure_30 rfl rfl ?_
        refine s_getR dX12_failure_31 fX12_20 lysX12 rfl ?_
        refine r_iload_n dX12_failure_34 rfl rfl ?_
        refine a_ld dX12_failure_35 rfl (by omega) (by decide) (hO.2.2.2.2.2.1 _ (by omega)) ?_
        refine r_goto (tgt := 48) dX12_failure_36 (by decide) ?_
        refine s_iret dX12_failure_48 rfl rfl ?_
        first
          | exact m_P_e (by unfold A_failure; rw [if_neg hx]) (by decide) h3 hM hO hf
          | (rw [if_pos (by omega)] at e9; exact m_P_s e9 h3 hM hO hf)
          | (rw [if_neg (by omega), if_pos (by subst c40; rfl)] at e9; exact m_P_s e9 h3 hM hO hf)
          | (rw [if_neg (by omega), if_neg (fun q => by have := (nI_eq (a := n) (b := 0) (by omega) (by decide)).mp q; omega)] at e9; exact m_P_s e9 h3 hM hO hf)
    · exact absurd c17 (by decide)
  · have hx : ¬ 0 ≤ x.toInt := by simp only [Int32.lt_iff_toInt_lt, Int32.le_iff_toInt_le, i_0] at *; omega
    refine n_const 1 dX12_failure_5 (by decide) ?_
    refine r_goto (tgt := 10) dX12_failure_6 (by decide) ?_
    refine a_put dX12_failure_10 gX12_79 lysX12 rfl rfl rfl (fun s1 hs1 hf1 => ?_)
    have h3 := (congrFun hs1 3).trans pk_us
    have hM := m_R_fr hM hf1 (Or.inr (by omega))
    have hO := m_O_eq hO (m_eq_put hs1 hf1 (by decide))
    have hf := s_fr_tr hf (s_fr_w (lo' := 212) (hi' := 234) hf1 (by omega) (by omega))
    refine r_aload_n dX12_failure_13 rfl rfl ?_
    refine s_getI dX12_failure_14 fX12_79 lysX12 rfl h3 ?_
    refine n_ifle (tgt := 22) dX12_failure_17 (by decide) (by omega) (fun c17 => ?_) (fun c17 => ?_)
    · exact absurd c17 (by decide)
    · refine n_const 0 dX12_failure_20 (by decide) ?_
      refine s_iret dX12_failure_21 rfl rfl ?_
      first
        | exact m_P_e (by unfold A_failure; rw [if_neg hx]) (by decide) h3 hM hO hf
        | (rw [if_pos (by omega)] at e9; exact m_P_s e9 h3 hM hO hf)
        | (rw [if_neg (by omega), if_pos (by subst c40; rfl)] at e9; exact m_P_s e9 h3 hM hO hf)
        | (rw [if_neg (by omega), if_neg (fun q => by have := (nI_eq (a := n) (b := 0) (by omega) (by decide)).mp q; omega)] at e9; exact m_P_s e9 h3 hM hO hf)
set_option maxRecDepth 20000 in
set_option maxHeartbeats 1000000 in
theorem c_tabuSteps {G : q_G} {s : s_T} {z : z_T} (hz : z_wf z) (hZ : c_Z z s) : s_W G mX11_tabuSteps 2 0 0 (c_P [] (A_tabuSteps z) s) 0 (q_ent mX11_tabuSteps [.ref 0]) [] s := by
  show s_W G mX11_tabuSteps 2 0 0 _ 0 [some (.ref 0)] [] s
  have hw := hz.1.1
  have hs := x_sz hw
  have hC := hZ.1
  have hf : s_fr 0 212 s s := s_fr_rf
  have ho : isX7 1 := Or.inl rfl
  refine r_aload_n dX11_tabuSteps_0 rfl rfl ?_
  refine s_getR dX11_tabuSteps_1 fX11_63 lysX11 rfl ?_
  refine s_getI dX11_tabuSteps_4 fX11_339 lysX8 rfl hZ.2.2.2.2.2.2.2.2.2.2.2 ?_
  refine s_iret dX11_tabuSteps_7 rfl rfl ?_
  exact c_P_s rfl hZ hf
set_option maxRecDepth 20000 in
set_option maxHeartbeats 1000000 in
theorem m_tabuSteps {G : q_G} {s : s_T} {z : z_T} (hz : z_wf z) (hM : m_R (z 0) s) (hO : m_O z s) : s_W G mX12_tabuSteps 2 0 0 (m_P (A_tabuSteps z) s) 0 (q_ent mX12_tabuSteps [.ref 212]) [] s := by
  show s_W G mX12_tabuSteps 2 0 0 _ 0 [some (.ref 212)] [] s
  have hw := hz.1.1
  have hs := x_sz hw
  have hf : s_fr 212 234 s s := s_fr_rf
  refine r_aload_n dX12_tabuSteps_0 rfl rfl ?_
  refine n_const 0 dX12_tabuSteps_1 (by decide) ?_
  refine a_put dX12_tabuSteps_2 gX12_79 lysX12 rfl rfl rfl (fun s1 hs1 hf1 => ?_)
  have h3 := (congrFun hs1 3).trans pk_us
  have hM := m_R_fr hM hf1 (Or.inr (by omega))
  have hO := m_O_eq hO (m_eq_put hs1 hf1 (by decide))
  have hf := s_fr_tr hf (s_fr_w (lo' := 212) (hi' := 234) hf1 (by omega) (by omega))
  refine r_aload_n dX12_tabuSteps_5 rfl rfl ?_
  refine s_getI dX12_tabuSteps_6 fX12_270 lysX12 rfl hO.2.2.2.2.2.2.2.2.1 ?_
  refine s_iret dX12_tabuSteps_9 rfl rfl ?_
  exact m_P_s rfl h3 hM hO hf
set_option maxRecDepth 20000 in
set_option maxHeartbeats 1000000 in
theorem m_bottleneck {G : q_G} {s : s_T} {z : z_T} (hz : z_wf z) (hM : m_R (z 0) s) (hO : m_O z s) {a : Int32} : s_W G mX12_bottleneck 8 0 0 (m_P (A_bottleneck z a) s) 0 (q_ent mX12_bottleneck [.ref 212, .int a]) [] s := by
  show s_W G mX12_bottleneck 8 0 0 _ 0 [some (.ref 212), some (.int a)] [] s
  have hw := hz.1.1
  have hs := x_sz hw
  have hf : s_fr 212 234 s s := s_fr_rf
  have hcl := hz.2.2.2.2.2.1.1
  refine r_aload_n dX12_bottleneck_0 rfl rfl ?_
  refine r_aload_n dX12_bottleneck_1 rfl rfl ?_
  refine s_getI dX12_bottleneck_2 fX12_258 lysX12 rfl hO.2.2.2.2.2.2.1 ?_
  refine n_ifeq (tgt := 24) dX12_bottleneck_5 (by decide) (by omega) (fun c5 => ?_) (fun c5 => ?_)
  · refine n_const 1 dX12_bottleneck_24 (by decide) ?_
    refine a_put dX12_bottleneck_25 gX12_79 lysX12 rfl rfl rfl (fun s1 hs1 hf1 => ?_)
    have h3 := (congrFun hs1 3).trans pk_us
    have hM := m_R_fr hM hf1 (Or.inr (by omega))
    have hO := m_O_eq hO (m_eq_put hs1 hf1 (by decide))
    have hf := s_fr_tr hf (s_fr_w (lo' := 212) (hi' := 234) hf1 (by omega) (by omega))
    refine r_aload_n dX12_bottleneck_28 rfl rfl ?_
    refine s_getI dX12_bottleneck_29 fX12_79 lysX12 rfl h3 ?_
    refine n_ifle (tgt := 39) dX12_bottleneck_32 (by decide) (by omega) (fun c32 => ?_) (fun c32 => ?_)
    · exact absurd c32 (by decide)
    · refine n_const 0 dX12_bottleneck_35 (by decide) ?_
      refine r_goto (tgt := 45) dX12_bottleneck_36 (by decide) ?_
      refine s_iret dX12_bottleneck_45 rfl rfl ?_
      first
        | exact m_P_e (by unfold A_bottleneck; rw [if_neg (fun q => by omega)]) (by decide) h3 hM hO hf
        | exact m_P_e (by unfold A_bottleneck; rw [if_neg (fun q => by have := q.2; rw [← iIn_iLt, c17] at this; cases this)]) (by decide) h3 hM hO hf
        | exact m_P_s (by unfold A_bottleneck; rw [if_pos ⟨by omega, by rw [← iIn_iLt]; exact c17⟩, ea]) h3 hM hO hf
  · refine r_iload_n dX12_bottleneck_8 rfl rfl ?_
    refine r_i2l dX12_bottleneck_9 rfl ?_
    refine r_lconst (v := (nI 0).toInt64) dX12_bottleneck_10 (by decide) ?_
    refine r_ldc2 dX12_bottleneck_11 kL_86 ?_
    refine s_S3I mX12_in dX12_bottleneck_14 okX12_in lX12_82 npX12_in (by decide) (by decide) (by decide) (Nat.le_of_ble_eq_true rfl) (Nat.le_of_ble_eq_true rfl) (c_in2 (by decide) (by decide)) (fun x s1 hq => ?_)
    obtain ⟨rfl, rfl⟩ := hq
    refine b_ifeq (tgt := 24) dX12_bottleneck_17 (by decide) (fun c17 => ?_) (fun c17 => ?_)
    · refine n_const 1 dX12_bottleneck_24 (by decide) ?_
      refine a_put dX12_bottleneck_25 gX12_79 lysX12 rfl rfl rfl (fun s1 hs1 hf1 => ?_)
      have h3 := (congrFun hs1 3).trans pk_us
      have hM := m_R_fr hM hf1 (Or.inr (by omega))
      have hO := m_O_eq hO (m_eq_put hs1 hf1 (by decide))
      have hf := s_fr_tr hf (s_fr_w (lo' := 212) (hi' := 234) hf1 (by omega) (by omega))
      refine r_aload_n dX12_bottleneck_28 rfl rfl ?_
      refine s_getI dX12_bottleneck_29 fX12_79 lysX12 rfl h3 ?_
      refine n_ifle (tgt := 39) dX12_bottleneck_32 (by decide) (by omega) (fun c32 => ?_) (fun c32 => ?_)
      · exact absurd c32 (by decide)
      · refine n_const 0 dX12_bottleneck_35 (by decide) ?_
        refine r_goto (tgt := 45) dX12_bottleneck_36 (by decide) ?_
        refine s_iret dX12_bottleneck_45 rfl rfl ?_
        first
          | exact m_P_e (by unfold A_bottleneck; rw [if_neg (fun q => by omega)]) (by decide) h3 hM hO hf
          | exact m_P_e (by unfold A_bottleneck; rw [if_neg (fun q => by have := q.2; rw [← iIn_iLt, c17] at this; cases this)]) (by decide) h3 hM hO hf
          | exact m_P_s (by unfold A_bottleneck; rw [if_pos ⟨by omega, by rw [← iIn_iLt]; exact c17⟩, ea]) h3 hM hO hf
    · obtain ⟨a, rfl, ha0, ha, ha2⟩ := iIn_n c17
      have ea := iN_n ha2
      refine n_const 0 dX12_bottleneck_20 (by decide) ?_
      refine r_goto (tgt := 25) dX12_bottleneck_21 (by decide) ?_
      refine a_put dX12_bottleneck_25 gX12_79 lysX12 rfl rfl rfl (fun s1 hs1 hf1 => ?_)
      have h3 := (congrFun hs1 3).trans pk_us
      have hM := m_R_fr hM hf1 (Or.inr (by omega))
      have hO := m_O_eq hO (m_eq_put hs1 hf1 (by decide))
      have hf := s_fr_tr hf (s_fr_w (lo' := 212) (hi' := 234) hf1 (by omega) (by omega))
      refine r_aload_n dX12_bottleneck_28 rfl rfl ?_
      refine s_getI dX12_bottleneck_29 fX12_79 lysX12 rfl h3 ?_
      refine n_ifle (tgt := 39) dX12_bottleneck_32 (by decide) (by omega) (fun c32 => ?_) (fun c32 => ?_)
      · refine r_aload_n dX12_bottleneck_39 rfl rfl ?_
        refine s_getR dX12_bottleneck_40 fX12_23 lysX12 rfl ?_
        refine r_iload_n dX12_bottleneck_43 rfl rfl ?_
        refine a_ld dX12_bottleneck_44 rfl (by omega) (by decide) (hO.2.2.2.2.2.2.2.1 (by omega) _ (by omega)) ?_
        refine s_iret dX12_bottleneck_45 rfl rfl ?_
        first
          | exact m_P_e (by unfold A_bottleneck; rw [if_neg (fun q => by omega)]) (by decide) h3 hM hO hf
          | exact m_P_e (by unfold A_bottleneck; rw [if_neg (fun q => by have := q.2; rw [← iIn_iLt, c17] at this; cases this)]) (by decide) h3 hM hO hf
          | exact m_P_s (by unfold A_bottleneck; rw [if_pos ⟨by omega, by rw [← iIn_iLt]; exact c17⟩, ea]) h3 hM hO hf
      · exact absurd c32 (by decide)
set_option maxRecDepth 20000 in
set_option maxHeartbeats 1000000 in
theorem c_bottleneck {G : q_G} {s : s_T} {z : z_T} (hz : z_wf z) (hZ : c_Z z s) {a : Int32} : s_W G mX11_bottleneck 8 2 12 (c_P [q_NS] (A_bottleneck z a) s) 0 (q_ent mX11_bottleneck [.ref 0, .int a]) [] s := by
  show s_W G mX11_bottleneck 8 2 12 _ 0 [some (.ref 0), some (.int a)] [] s
  have hw := hz.1.1
  have hs := x_sz hw
  have hC := hZ.1
  have hf : s_fr 0 212 s s := s_fr_rf
  have ho : isX7 1 := Or.inl rfl
  have hcl := hz.2.2.2.2.2.1.1
  refine r_iload_n dX11_bottleneck_0 rfl rfl ?_
  refine r_if_lt (tgt := 15) dX11_bottleneck_1 (by decide) (fun c1 => ?_) (fun c1 => ?_)
  · refine s_throwNW dX11_bottleneck_15 dX11_bottleneck_18 dX11_bottleneck_19 dX11_bottleneck_22 dX11_bottleneck_25 thrN_328 rfl (by decide) (by decide) (by decide) (Nat.le_of_ble_eq_true rfl) ?_
    exact c_P_e 1 (by unfold A_bottleneck; rw [if_neg (fun q => by have q2 := of_decide_eq_true q.2; simp only [Int32.lt_iff_toInt_lt, Int32.le_iff_toInt_le, i_0, nI_toInt (show 4 * z 2 3 < 2 ^ 31 by omega)] at *; omega)]) (by decide) rfl hZ hf
  · refine r_iload_n dX11_bottleneck_4 rfl rfl ?_
    refine r_aload_n dX11_bottleneck_5 rfl rfl ?_
    refine s_getR dX11_bottleneck_6 fX11_56 lysX11 rfl ?_
    refine s_getI dX11_bottleneck_9 fX11_325 lysX0 rfl hZ.2.2.2.2.2.2.2.2.2.1 ?_
    refine r_icmp_lt (tgt := 26) dX11_bottleneck_12 (by decide) (fun c12 => ?_) (fun c12 => ?_)
    · have hx : 0 ≤ a.toInt ∧ a.toInt < ((4 * z 2 3 : Nat) : Int) := by simp only [Int32.lt_iff_toInt_lt, Int32.le_iff_toInt_le, i_0, nI_toInt (show 4 * z 2 3 < 2 ^ 31 by omega)] at *; omega
      have hc1 : z 2 3 = 1 := by omega
      have hx4 : iLt a 4 = true := decide_eq_true (by omega)
      obtain ⟨a, rfl, ha, ha2⟩ := iLt_n hx4
      have ea := iN_n ha2
      refine r_aload_n dX11_bottleneck_26 rfl rfl ?_
      refine s_getR dX11_bottleneck_27 fX11_56 lysX11 rfl ?_
      refine s_getR dX11_bottleneck_30 fX11_330 lysX0 rfl ?_
      refine r_iload_n dX11_bottleneck_33 rfl rfl ?_
      refine a_ld dX11_bottleneck_34 rfl (by omega) (by decide) (hZ.2.2.2.2.2.2.2.2.2.2.1 hc1 _ ha) ?_
      refine s_iret dX11_bottleneck_35 rfl rfl ?_
      exact c_P_s (by unfold A_bottleneck; rw [if_pos ⟨hc1, hx4⟩, ea]) hZ hf
    · refine s_throwNW dX11_bottleneck_15 dX11_bottleneck_18 dX11_bottleneck_19 dX11_bottleneck_22 dX11_bottleneck_25 thrN_328 rfl (by decide) (by decide) (by decide) (Nat.le_of_ble_eq_true rfl) ?_
      exact c_P_e 1 (by unfold A_bottleneck; rw [if_neg (fun q => by have q2 := of_decide_eq_true q.2; simp only [Int32.lt_iff_toInt_lt, Int32.le_iff_toInt_le, i_0, nI_toInt (show 4 * z 2 3 < 2 ^ 31 by omega)] at *; omega)]) (by decide) rfl hZ hf
set_option maxRecDepth 20000 in
set_option maxHeartbeats 1000000 in
theorem c_order {G : q_G} {s : s_T} {z : z_T} (hz : z_wf z) (hZ : c_Z z s) {m p : Int32} : s_W G mX11_order 8 2 12 (c_P [q_IO, q_NS] (A_order z m p) s) 0 (q_ent mX11_order [.ref 0, .int m, .int p]) [] s := by
  show s_W G mX11_order 8 2 12 _ 0 [some (.ref 0), some (.int m), some (.int p)] [] s
  have hw := hz.1.1
  have hs := x_sz hw
  have hC := hZ.1
  have hf : s_fr 0 212 s s := s_fr_rf
  have ho : isX7 1 := Or.inl rfl
  refine r_iload_n dX11_order_0 rfl rfl ?_
  refine s_S1X mX11_requireMachine dX11_order_1 okX11_requireMachine lX11_116 npX11_requireMachine (by decide) (by decide) (by decide) (Nat.le_of_ble_eq_true rfl) (Nat.le_of_ble_eq_true rfl) c_requireMachine (fun v s1 hq => ?_) (fun E s1 hq => by obtain ⟨rfl, c9, rfl⟩ := c_rq_f hq; exact x_out rfl (s_end (c_P_e 1 (by unfold A_order; simp [*]) (by decide) rfl hZ hf)))
  obtain ⟨rfl, c1, rfl⟩ := c_rq_t hq
  obtain ⟨m, rfl, hm, hm2⟩ := iLt_n c1
  have em := iN_n hm2
  refine r_aload_n dX11_order_4 rfl rfl ?_
  refine s_getR dX11_order_5 fX11_10 lysX11 rfl ?_
  refine s_getR dX11_order_8 fX11_196 (layX7 isX7_1) rfl ?_
  refine r_iload_n dX11_order_11 rfl rfl ?_
  refine r_iload_n dX11_order_12 rfl rfl ?_
  refine s_V2I mX5_contains dX11_order_13 okX5_contains lX11_208 npX5_contains (layX5 (X7_orders isX7_1)) rfl (by decide) (by decide) (by decide) (Nat.le_of_ble_eq_true rfl) (Nat.le_of_ble_eq_true rfl) (c_contains2 isX5_35 (c_R_O hC) hm (x_mn hw hm).2) (fun x s1 hq => ?_)
  obtain ⟨rfl, rfl⟩ := hq
  refine b_ifne (tgt := 29) dX11_order_16 (by decide) (fun c16 => ?_) (fun c16 => ?_)
  · obtain ⟨p, rfl, hp, hp2⟩ := iLt_n c16
    have ep := iN_n hp2
    have hmn := x_mn hw hm
    refine r_aload_n dX11_order_29 rfl rfl ?_
    refine s_getR dX11_order_30 fX11_10 lysX11 rfl ?_
    refine s_getR dX11_order_33 fX11_196 (layX7 isX7_1) rfl ?_
    refine s_getR dX11_order_36 fX11_216 (layX5 (X7_orders isX7_1)) rfl ?_
    refine r_iload_n dX11_order_39 rfl rfl ?_
    refine a_ald dX11_order_40 (X5_rows (X7_orders isX7_1)) (by omega) (by decide) ?_
    refine r_iload_n dX11_order_41 rfl rfl ?_
    refine a_ld dX11_order_42 (X5_rows_row (X7_orders isX7_1) (by omega)) (by omega) (by decide) (co_ord (c_R_O hC) hm hp) ?_
    refine s_iret dX11_order_43 rfl rfl ?_
    first
      | exact c_P_s (by unfold A_order; simp [*]) hZ hf
      | exact c_P_n (by unfold A_order; simp [*]) hZ hf
  · refine s_throwN dX11_order_19 dX11_order_22 dX11_order_23 dX11_order_25 dX11_order_28 thrN_213 rfl (by decide) (by decide) (by decide) (Nat.le_of_ble_eq_true rfl) ?_
    exact c_P_e 2 (by unfold A_order; simp [*]) (by decide) rfl hZ hf
