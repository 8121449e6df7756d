section
/-! ===== doubles: the quotient of two ints is a number ===== -/
theorem fp_t : FP.Core.b64.tails = 4503599627370496 := by decide +kernel
theorem fp_e : FP.Core.b64.exps = 2048 := by decide +kernel
theorem fp_qn : FP.Core.b64.qmin = -1074 := by decide +kernel
theorem fp_qx : FP.Core.b64.qmax = 971 := by decide +kernel
theorem fp_p : 2 ^ FP.Core.b64.p = 9007199254740992 := by decide +kernel
def fp_g (n : Nat) : Prop := n % 9223372036854775808 ≤ 9218868437227405312 ∧ n < 18446744073709551616
theorem fp_as {s : Bool} {e t : Nat} (ht : t < 4503599627370496) (he : e ≤ 2047) (h : e = 2047 → t = 0) : fp_g (FP.Core.assemble FP.Core.b64 s e t) := by
  unfold FP.Core.assemble fp_g
  rw [fp_t, fp_e]
  cases s
  · show ((0 * 2048 + e) * 4503599627370496 + t) % _ ≤ _ ∧ (0 * 2048 + e) * 4503599627370496 + t < _
    omega
  · show ((1 * 2048 + e) * 4503599627370496 + t) % _ ≤ _ ∧ (1 * 2048 + e) * 4503599627370496 + t < _
    omega
theorem fp_bd {s : Bool} {c : Nat} {q : Int} (hc : c < 9007199254740992) (hq : -1074 ≤ q) : fp_g (FP.Core.encode FP.Core.b64 (FP.Core.bound FP.Core.b64 s c q)) := by
  unfold FP.Core.bound
  rw [fp_qx]
  by_cases e : q ≤ 971
  · rw [if_pos e]
    unfold FP.Core.encode
    dsimp only
    rw [fp_t, fp_qn]
    by_cases e2 : c < 4503599627370496
    · rw [if_pos e2]; exact fp_as e2 (by omega) (by omega)
    · rw [if_neg e2]; exact fp_as (by omega) (by omega) (by omega)
  · rw [if_neg e]
    unfold FP.Core.encode
    dsimp only
    rw [fp_e]
    exact fp_as (by omega) (by omega) (by omega)
theorem fp_rr {s : Bool} {num den : Nat} {e : Int} : fp_g (FP.Core.encode FP.Core.b64 (FP.Core.roundRatio FP.Core.b64 s num den e)) := by
  unfold FP.Core.roundRatio
  by_cases h : num = 0
  · rw [if_pos h]
    unfold FP.Core.encode
    dsimp only
    rw [fp_t, if_pos (by omega)]
    exact fp_as (by omega) (by omega) (by omega)
  · rw [if_neg h]
    unfold FP.Core.roundAt FP.Core.settle
    have hq : (-1074 : Int) ≤ FP.Core.quantum FP.Core.b64 num den e := by
      unfold FP.Core.quantum
      rw [fp_qn]
      exact Int.le_max_left _ _
    rw [fp_p]
    split
    · next h2 => exact fp_bd h2 hq
    · rw [fp_t]; exact fp_bd (by omega) (by omega)
theorem fp_n {n : Nat} (h : fp_g n) : vf_n64 (UInt64.ofNat n) := by
  unfold vf_n64
  rw [UInt64.le_iff_toNat_le, UInt64.toNat_and]
  have e1 : (UInt64.ofNat n).toNat = n := by
    rw [UInt64.toNat_ofNat']
    exact Nat.mod_eq_of_lt h.2
  have e2 : (0x7fffffffffffffff : UInt64).toNat = 2 ^ 63 - 1 := by decide +kernel
  have e3 : (0x7ff0000000000000 : UInt64).toNat = 9218868437227405312 := by decide +kernel
  rw [e1, e2, e3, Nat.and_two_pow_sub_one_eq_mod]
  exact h.1
def fp_fin (d : FP.Core.Datum) (z : Bool) : Bool := match d with
  | .fin _ c _ => z || decide (c ≠ 0)
  | _ => false
theorem fp_b : ∀ b : Nat, b < 1401 → fp_fin (FP.Core.decode FP.Core.b64 (UInt64.ofNat (FP.Core.fromInt FP.Core.b64 (b : Int))).toNat) (decide (b = 0)) = true := by decide +kernel
theorem fp_fin_i {d : FP.Core.Datum} {z : Bool} (h : fp_fin d z = true) : ∃ s c q, d = .fin s c q ∧ (z = false → c ≠ 0) := by
  cases d with
  | nan => cases h
  | inf s => cases h
  | fin s c q =>
    refine ⟨s, c, q, rfl, fun hz => ?_⟩
    rw [hz] at h
    exact of_decide_eq_true h
theorem fp_div {a b : Nat} (ha : a < 1401) (hb : b < 1401) (h0 : 0 < b) : vf_n64 (FP.ddiv (FP.i2d (nI a)) (FP.i2d (nI b))) := by
  obtain ⟨s, c, q, e1, -⟩ := fp_fin_i (fp_b a ha)
  obtain ⟨t, d, r, e2, h2⟩ := fp_fin_i (fp_b b hb)
  unfold FP.ddiv FP.i2d FP.Core.ddiv FP.Core.i2d FP.Core.div
  rw [nI_toInt (by omega), nI_toInt (by omega), e1, e2]
  unfold FP.Core.quotient
  dsimp only
  rw [if_neg (h2 (decide_eq_false (by omega)))]
  exact fp_n fp_rr
theorem q_dv_n {a b : Nat} (ha : a < 1401) (hb : b < 1401) : vf_n64 (q_dv (nI a) (nI b)) := by
  unfold q_dv
  by_cases h : b = 0
  · rw [h, if_pos (by decide)]
    unfold vf_n64
    decide +kernel
  · rw [if_neg (fun z => by
      rw [Int32.le_iff_toInt_le, nI_toInt (by omega), i_0] at z
      omega)]
    exact fp_div ha hb (by omega)
theorem fp_cs (x : Int) : compare x x = Ordering.eq := by
  show compareOfLessAndEq x x = _
  unfold compareOfLessAndEq
  rw [if_neg (by omega), if_pos rfl]
theorem fp_eq {x : UInt64} (h : vf_n64 x) : FP.dcmp x x = some Ordering.eq := by
  unfold vf_n64 at h
  rw [UInt64.le_iff_toNat_le, UInt64.toNat_and] at h
  have e2 : (0x7fffffffffffffff : UInt64).toNat = 2 ^ 63 - 1 := by decide +kernel
  have e3 : (0x7ff0000000000000 : UInt64).toNat = 9218868437227405312 := by decide +kernel
  rw [e2, e3, Nat.and_two_pow_sub_one_eq_mod] at h
  unfold FP.dcmp FP.Core.dcmp FP.Core.cmp FP.Core.decode FP.Core.fieldE FP.Core.fieldT
  rw [fp_t, fp_e]
  by_cases e : x.toNat / 4503599627370496 % 2048 = 2048 - 1
  · rw [if_pos e, if_pos (by omega)]
    unfold FP.Core.order
    dsimp only
    rw [fp_cs]
  · rw [if_neg e]
    by_cases e5 : x.toNat / 4503599627370496 % 2048 = 0
    · rw [if_pos e5]
      unfold FP.Core.order
      dsimp only
      rw [fp_cs]
    · rw [if_neg e5]
      unfold FP.Core.order
      dsimp only
      rw [fp_cs]
/-! ===== utilization ===== -/
def x_bz (X : x_T) (m n : Nat) : Nat := x_sm (fun p => X (82 + X (183 + 5 * m + p))) n
abbrev d_T : Type := Nat × Int32 × Int32
noncomputable def A_utilization (z : z_T) (m : Int32) : d_T := if iLt m 4 = true then (0, nI (x_bz (z 0) (iN m) (z 0 (179 + iN m))), nI (x_s0 (z 0))) else (1, 0, 0)
def c_Pd (es : List String) (a : d_T) (z : z_T) (s : s_T) : q_R → s_T → Prop := fun r s1 => (a.1 = 0 → r = .inl (some (.double (q_dv a.2.1 a.2.2)))) ∧ (a.1 ≠ 0 → ∃ E, es[a.1 - 1]? = some E ∧ r = .inr E) ∧ c_Z z s1 ∧ s_fr 0 212 s s1
def m_Pd (a : d_T) (z : z_T) (s : s_T) : q_R → s_T → Prop := fun r s1 => ∃ x, r = .inl (some (.double x)) ∧ (a.1 = 0 → x = q_dv a.2.1 a.2.2) ∧ s1 212 3 = nI a.1 ∧ m_Z z s1 ∧ s_fr 212 234 s s1
theorem x_bz_le {X : x_T} (hw : x_wf X) {m n : Nat} (hm : m < 4) (hn : n ≤ X (179 + m)) : x_bz X m n ≤ 150 := by
  have h5 := (x_mn hw hm).2
  have := x_sm_le (f := fun p => X (82 + X (183 + 5 * m + p))) (B := 30) n (fun i hi => (x_op hw (x_od hw hm (p := i) (by omega)).1).2.2.2.2.2.2.2.2.1)
  unfold x_bz
  omega
theorem q_dv_0 {a : Int32} {b : Nat} (h : b = 0) : q_dv a (nI b) = 0 := by
  subst h
  unfold q_dv
  exact if_pos (by decide)
theorem q_dv_p {a : Int32} {b : Nat} (h : 0 < b) (h2 : b < 2 ^ 31) : q_dv a (nI b) = FP.ddiv (FP.i2d a) (FP.i2d (nI b)) := by
  unfold q_dv
  exact if_neg (fun z => by
    rw [Int32.le_iff_toInt_le, nI_toInt h2, i_0] at z
    omega)
theorem A_ut_n {z : z_T} (hz : z_wf z) {m : Int32} (h : (A_utilization z m).1 = 0) : vf_n64 (q_dv (A_utilization z m).2.1 (A_utilization z m).2.2) := by
  unfold A_utilization at h ⊢
  by_cases e : iLt m 4 = true
  · rw [if_pos e]
    obtain ⟨k, rfl, hk, hk2⟩ := iLt_n e
    rw [iN_n hk2]
    have := x_bz_le hz.1.1 hk (Nat.le_refl (z 0 (179 + k)))
    have := x_s0_bd (z_gd hz)
    exact q_dv_n (by omega) (by omega)
  · rw [if_neg e] at h; cases h
set_option maxRecDepth 20000 in
set_option maxHeartbeats 1000000 in
theorem c_utilization {G : q_G} {s : s_T} {z : z_T} (hz : z_wf z) (hZ : c_Z z s) {m : Int32} : s_W G mX11_utilization 8 2 12 (c_Pd [q_IO] (A_utilization z m) z s) 0 (q_ent mX11_utilization [.ref 0, .int m]) [] s := by
  show s_W G mX11_utilization 8 2 12 _ 0 [some (.ref 0), some (.int m), none, none, none] [] s
  have hw := hz.1.1
  have hs := x_sz hw
  have hC := hZ.1
  have hf : s_fr 0 212 s s := s_fr_rf
  have ho : isX7 1 := Or.inl rfl
  refine r_iload_n dX11_utilization_0 rfl rfl ?_
  refine s_S1X mX11_requireMachine dX11_utilization_1 okX11_requireMachine lX11_116 npX11_requireMachine (by decide) (by decide) (by decide) (Nat.le_of_ble_eq_true rfl) (Nat.le_of_ble_eq_true rfl) c_requireMachine (fun v s1 hq => ?_) (fun E s1 hq => by obtain ⟨rfl, c9, rfl⟩ := c_rq_f hq; exact x_out rfl (s_end ⟨fun q => (by unfold A_utilization at q; rw [c9] at q; cases q), fun _ => ⟨q_IO, by unfold A_utilization; rw [c9]; rfl, rfl⟩, hZ, hf⟩))
  obtain ⟨e8, c1, e7⟩ := c_rq_t hq
  subst e7
  replace e8 := e8.symm
  subst e8
  obtain ⟨m, rfl, hm, hm2⟩ := iLt_n c1
  have em := iN_n hm2
  refine r_aload_n dX11_utilization_4 rfl rfl ?_
  refine s_V0I mX11_presentSpan dX11_utilization_5 okX11_presentSpan lX11_234 npX11_presentSpan lysX11 rfl (by decide) (by decide) (by decide) (Nat.le_of_ble_eq_true rfl) (Nat.le_of_ble_eq_true rfl) (c_presentSpan hz hZ) (fun x s1 hq => ?_)
  obtain ⟨rfl, ht2, hC, hZ, hf2⟩ := hq
  replace hf := s_fr_tr hf hf2
  have eA : A_utilization z (nI m) = (0, nI (x_bz (z 0) m (z 0 (179 + m))), nI (x_s0 (z 0))) := by unfold A_utilization; rw [if_pos c1, em]
  have hsb := x_s0_bd (z_gd hz)
  have hbz := x_bz_le hw hm (Nat.le_refl (z 0 (179 + m)))
  have h5 := (x_mn hw hm).2
  refine r_istore_n dX11_utilization_8 rfl (by decide) rfl ?_
  refine r_iload_n dX11_utilization_9 rfl rfl ?_
  refine n_ifgt (tgt := 15) dX11_utilization_10 (by decide) (by omega) (fun c10 => ?_) (fun c10 => ?_)
  · refine n_const 0 dX11_utilization_15 (by decide) ?_
    refine r_istore_n dX11_utilization_16 rfl (by decide) rfl ?_
    refine n_const 0 dX11_utilization_17 (by decide) ?_
    refine r_istore dX11_utilization_18 (by decide) rfl ?_
    have lp : ∀ f p, p ≤ z 0 (179 + m) → z 0 (179 + m) < p + f → s_W G mX11_utilization 8 1 6 (c_Pd [q_IO] (A_utilization z (nI m)) z s) 20 [some (.ref 0), some (.int (nI m)), some (.int (nI (x_s0 (z 0)))), some (.int (nI (x_bz (z 0) m p))), some (.int (nI p))] [] s1 := by
      intro f
      induction f with
      | zero =>
        intro p hp hme
        exact absurd hme (by omega)
      | succ f ih =>
        intro p hp hme
        have hO := c_R_O hC
        refine r_iload dX11_utilization_20 rfl ?_
        refine r_aload_n dX11_utilization_22 rfl rfl ?_
        refine s_getR dX11_utilization_23 fX11_10 lysX11 rfl ?_
        refine s_getR dX11_utilization_26 fX11_196 (layX7 isX7_1) rfl ?_
        refine s_getR dX11_utilization_29 fX11_266 (layX5 (X7_orders isX7_1)) rfl ?_
        refine r_iload_n dX11_utilization_32 rfl rfl ?_
        refine a_ld dX11_utilization_33 (X5_sizes (X7_orders isX7_1)) (by omega) (by decide) (co_on hO (by omega)) ?_
        refine n_cge (tgt := 69) dX11_utilization_34 (by decide) (by omega) (by omega) (fun c34 => ?_) (fun c34 => ?_)
        · have e9 : p = z 0 (179 + m) := by omega
          subst e9
          refine r_iload_n dX11_utilization_69 rfl rfl ?_
          refine r_i2d dX11_utilization_70 ?_
          refine r_iload_n dX11_utilization_71 rfl rfl ?_
          refine r_i2d dX11_utilization_72 ?_
          refine r_ddiv dX11_utilization_73 (fp_div (by omega) (by omega) (by omega)) ?_
          refine r_dret dX11_utilization_74 rfl (s_end ?_)
          exact ⟨fun _ => by rw [eA, q_dv_p (by omega) (by omega)], fun q => absurd (by rw [eA]) q, hZ, hf⟩
        · have hod := x_od hw hm c34
          have hod1 := hod.1
          refine r_iload_n dX11_utilization_37 rfl rfl ?_
          refine r_aload_n dX11_utilization_38 rfl rfl ?_
          refine s_getR dX11_utilization_39 fX11_10 lysX11 rfl ?_
          refine s_getR dX11_utilization_42 fX11_156 (layX7 isX7_1) rfl ?_
          refine r_aload_n dX11_utilization_45 rfl rfl ?_
          refine s_getR dX11_utilization_46 fX11_10 lysX11 rfl ?_
          refine s_getR dX11_utilization_49 fX11_196 (layX7 isX7_1) rfl ?_
          refine s_getR dX11_utilization_52 fX11_216 (layX5 (X7_orders isX7_1)) rfl ?_
          refine r_iload_n dX11_utilization_55 rfl rfl ?_
          refine a_ald dX11_utilization_56 (X5_rows (X7_orders isX7_1)) (by omega) (by decide) ?_
          refine r_iload dX11_utilization_57 rfl ?_
          refine a_ld dX11_utilization_59 (X5_rows_row (X7_orders isX7_1) (by omega)) (by omega) (by decide) (co_ord hO (by omega) (by omega)) ?_
          refine a_ld dX11_utilization_60 (X7_durations isX7_1) (by omega) (by decide) (cl_du hC (by omega)) ?_
          refine n_add dX11_utilization_61 ?_
          refine r_istore_n dX11_utilization_62 rfl (by decide) rfl ?_
          refine n_inc dX11_utilization_63 rfl (n_i1 _) (by decide) rfl ?_
          refine r_goto (tgt := 20) dX11_utilization_66 (by decide) ?_
          exact ih (p + 1) (by omega) (by omega)
    exact lp (z 0 (179 + m) + 1) 0 (by omega) (by omega)
  · refine r_dconst0 dX11_utilization_13 ?_
    refine r_dret dX11_utilization_14 rfl (s_end ?_)
    exact ⟨fun _ => by rw [eA, q_dv_0 (by omega)], fun q => absurd (by rw [eA]) q, hZ, hf⟩
set_option maxRecDepth 20000 in
set_option maxHeartbeats 1000000 in
theorem m_utilization {G : q_G} {s : s_T} {z : z_T} (hz : z_wf z) (hM : m_R (z 0) s) (hO : m_O z s) {m : Int32} : s_W G mX12_utilization 8 0 0 (m_Pd (A_utilization z m) z s) 0 (q_ent mX12_utilization [.ref 212, .int m]) [] s := by
  show s_W G mX12_utilization 8 0 0 _ 0 [some (.ref 212), some (.int m), none, none] [] s
  have hw := hz.1.1
  have hs := x_sz hw
  have hf : s_fr 212 234 s s := s_fr_rf
  refine r_aload_n dX12_utilization_0 rfl rfl ?_
  refine r_iload_n dX12_utilization_1 rfl rfl ?_
  refine s_S1I mX12_isMachine dX12_utilization_2 okX12_isMachine lX12_122 npX12_isMachine (by decide) (by decide) (by decide) (Nat.le_of_ble_eq_true rfl) (Nat.le_of_ble_eq_true rfl) c_mIsMachine (fun x s1 hq => ?_)
  obtain ⟨e9, rfl⟩ := hq
  replace e9 := e9.symm
  subst e9
  refine b_ifeq (tgt := 12) dX12_utilization_5 (by decide) (fun c5 => ?_) (fun c5 => ?_)
  · refine n_const 1 dX12_utilization_12 (by decide) ?_
    refine a_put dX12_utilization_13 gX12_79 lysX12 rfl rfl rfl (fun sB hs1 hf1 => ?_)
    have h3 := (congrFun hs1 3).trans pk_us
    have hM := m_R_fr hM hf1 (Or.inr (by omega))
    have hO := m_O_eq hO (m_eq_put hs1 hf1 (by decide))
    have hf := s_fr_tr hf (s_fr_w (lo' := 212) (hi' := 234) hf1 (by omega) (by omega))
    refine r_aload_n dX12_utilization_16 rfl rfl ?_
    refine s_getI dX12_utilization_17 fX12_79 lysX12 rfl h3 ?_
    refine n_ifle (tgt := 25) dX12_utilization_20 (by decide) (by omega) (fun c20 => ?_) (fun c20 => ?_)
    · exact absurd c20 (by decide)
    · refine r_dconst0 dX12_utilization_23 ?_
      refine r_dret dX12_utilization_24 rfl (s_end ?_)
      refine ⟨_, rfl, fun q => ?_, ?_, ⟨hM, hO⟩, hf⟩
      · unfold A_utilization at q; rw [c5] at q; cases q
      · unfold A_utilization; rw [c5]; exact h3
  · obtain ⟨m, rfl, hm, hm2⟩ := iLt_n c5
    have em := iN_n hm2
    refine n_const 0 dX12_utilization_8 (by decide) ?_
    refine r_goto (tgt := 13) dX12_utilization_9 (by decide) ?_
    refine a_put dX12_utilization_13 gX12_79 lysX12 rfl rfl rfl (fun sB hs1 hf1 => ?_)
    have h3 := (congrFun hs1 3).trans pk_us
    have hM := m_R_fr hM hf1 (Or.inr (by omega))
    have hO := m_O_eq hO (m_eq_put hs1 hf1 (by decide))
    have hf := s_fr_tr hf (s_fr_w (lo' := 212) (hi' := 234) hf1 (by omega) (by omega))
    refine r_aload_n dX12_utilization_16 rfl rfl ?_
    refine s_getI dX12_utilization_17 fX12_79 lysX12 rfl h3 ?_
    refine n_ifle (tgt := 25) dX12_utilization_20 (by decide) (by omega) (fun c20 => ?_) (fun c20 => ?_)
    · refine n_const 0 dX12_utilization_25 (by decide) ?_
      refine r_istore_n dX12_utilization_26 rfl (by decide) rfl ?_
      refine n_const 0 dX12_utilization_27 (by decide) ?_
      refine r_istore_n dX12_utilization_28 rfl (by decide) rfl ?_
      have eA : A_utilization z (nI m) = (0, nI (x_bz (z 0) m (z 0 (179 + m))), nI (x_s0 (z 0))) := by unfold A_utilization; rw [if_pos c5, em]
      have hsb := x_s0_bd (z_gd hz)
      have hbz := x_bz_le hw hm (Nat.le_refl (z 0 (179 + m)))
      have h5 := (x_mn hw hm).2
      have lp : ∀ f p, p ≤ z 0 (179 + m) → z 0 (179 + m) < p + f → s_W G mX12_utilization 8 0 0 (m_Pd (A_utilization z (nI m)) z s) 29 [some (.ref 212), some (.int (nI m)), some (.int (nI (x_bz (z 0) m p))), some (.int (nI p))] [] sB := by
        intro f
        induction f with
        | zero =>
          intro p hp hme
          exact absurd hme (by omega)
        | succ f ih =>
          intro p hp hme
          refine r_iload_n dX12_utilization_29 rfl rfl ?_
          refine r_aload_n dX12_utilization_30 rfl rfl ?_
          refine s_getR dX12_utilization_31 fX12_9 lysX12 rfl ?_
          refine n_sip 179 dX12_utilization_34 (by decide) ?_
          refine r_iload_n dX12_utilization_37 rfl rfl ?_
          refine n_add dX12_utilization_38 ?_
          refine m_ld dX12_utilization_39 hM (by omega) ?_
          refine n_cge (tgt := 66) dX12_utilization_40 (by decide) (by omega) (by omega) (fun c40 => ?_) (fun c40 => ?_)
          · have e9 : p = z 0 (179 + m) := by omega
            subst e9
            refine r_aload_n dX12_utilization_66 rfl rfl ?_
            refine s_V0I mX12_makespanNow dX12_utilization_67 okX12_makespanNow lX12_188 npX12_makespanNow lysX12 rfl (by decide) (by decide) (by decide) (Nat.le_of_ble_eq_true rfl) (Nat.le_of_ble_eq_true rfl) (c_makespanNow0 hM hO.2.2.2.2.2.2.2.2.2.1 hO.2.2.2.2.2.2.2.2.2.2.1 (z_gd hz)) (fun x s1 hq => ?_)
            obtain ⟨rfl, ht, hf1⟩ := hq
            replace hM := m_R_fr hM hf1 (Or.inl (by omega))
            replace hO := m_O_eq hO (m_eq_fr hf1 (by omega))
            replace h3 := (congrFun (hf1 212 (by omega)) 3).trans h3
            replace hf := s_fr_tr hf (s_fr_w hf1 (by omega) (by omega))
            refine r_istore_n dX12_utilization_70 rfl (by decide) rfl ?_
            refine r_iload_n dX12_utilization_71 rfl rfl ?_
            refine n_ifne (tgt := 79) dX12_utilization_72 (by decide) (by omega) (fun c72 => ?_) (fun c72 => ?_)
            · refine r_iload_n dX12_utilization_79 rfl rfl ?_
              refine r_i2d dX12_utilization_80 ?_
              refine r_iload_n dX12_utilization_81 rfl rfl ?_
              refine r_i2d dX12_utilization_82 ?_
              refine r_ddiv dX12_utilization_83 (fp_div (by omega) (by omega) (by omega)) ?_
              refine r_dret dX12_utilization_84 rfl (s_end ?_)
              refine ⟨_, rfl, fun _ => ?_, by rw [eA]; exact h3, ⟨hM, hO⟩, hf⟩
              first
                | rw [eA, q_dv_0 (by omega)]
                | rw [eA, q_dv_p (by omega) (by omega)]
            · refine r_dconst0 dX12_utilization_75 ?_
              refine r_goto (tgt := 84) dX12_utilization_76 (by decide) ?_
              refine r_dret dX12_utilization_84 rfl (s_end ?_)
              refine ⟨_, rfl, fun _ => ?_, by rw [eA]; exact h3, ⟨hM, hO⟩, hf⟩
              first
                | rw [eA, q_dv_0 (by omega)]
                | rw [eA, q_dv_p (by omega) (by omega)]
          · have hod := x_od hw hm c40
            have hod1 := hod.1
            refine r_iload_n dX12_utilization_43 rfl rfl ?_
            refine r_aload_n dX12_utilization_44 rfl rfl ?_
            refine s_getR dX12_utilization_45 fX12_9 lysX12 rfl ?_
            refine n_bip 82 dX12_utilization_48 (by decide) ?_
            refine r_aload_n dX12_utilization_50 rfl rfl ?_
            refine r_iload_n dX12_utilization_51 rfl rfl ?_
            refine r_iload_n dX12_utilization_52 rfl rfl ?_
            refine s_V2I mX12_ordered dX12_utilization_53 okX12_ordered lX12_142 npX12_ordered lysX12 rfl (by decide) (by decide) (by decide) (Nat.le_of_ble_eq_true rfl) (Nat.le_of_ble_eq_true rfl) (c_ordered hM (by omega) (by omega)) (fun x s1 hq => ?_)
            obtain ⟨e9, rfl⟩ := hq
            replace e9 := e9.symm
            subst e9
            refine n_add dX12_utilization_56 ?_
            refine m_ld dX12_utilization_57 hM (by omega) ?_
            refine n_add dX12_utilization_58 ?_
            refine r_istore_n dX12_utilization_59 rfl (by decide) rfl ?_
            refine n_inc dX12_utilization_60 rfl (n_i1 _) (by decide) rfl ?_
            refine r_goto (tgt := 29) dX12_utilization_63 (by decide) ?_
            exact ih (p + 1) (by omega) (by omega)
      exact lp (z 0 (179 + m) + 1) 0 (by omega) (by omega)
    · exact absurd c20 (by decide)
end
