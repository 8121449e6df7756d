theorem q_ok_n {n t : Nat} {a : vp_A} (h : ∀ f, a.2 ≠ .inr (.inr (.inr (.inr f)))) : q_ok n (.inl (t, a)) := fun f hf => absurd hf (h f)
section QR3
variable {G : q_G} {M : q_M} {d C S : Nat} {Post : q_R → Nat → q_H → Prop} {pc : Nat} {L : List (Option Value)} {st : List Value} {n : Nat} {h : q_H}
theorem r_iald {k len : Nat} {f : Nat → Int32} {i : Int32} (dc : decode M.2.2.1 pc = .ok (.iaload, 1)) (hk : k < n) (hh : h k = .inl (0, (len, .inl f))) (hi : vp_in i len) (K : q_W G M d C S Post (pc + 1) L (.int (f i.toNatClampNeg) :: st) n h) : q_W G M d C S Post pc L (.int i :: .ref k :: st) n h := by
  intro p l e R s m args below meth c H locs cells slots ls A ad ad0 n0 hF hS hn hc hl hst hL
  exact va_iald hF.1 hF.2.1 hF.2.2.2.2.2.2.2.2.2.1 hS.1 k 0 (q_w_a hk hh) rfl hi dc (K p l e R s m args below meth c H locs cells slots ls A ad ad0 n0 hF hS hn hc hl (q_os_c q_ov_i (q_os_t (q_os_t hst))) hL)
theorem r_zald {k len : Nat} {f : Nat → Int32} {i : Int32} (dc : decode M.2.2.1 pc = .ok (.baload, 1)) (hk : k < n) (hh : h k = .inl (1, (len, .inl f))) (hi : vp_in i len) (K : q_W G M d C S Post (pc + 1) L (.int (f i.toNatClampNeg) :: st) n h) : q_W G M d C S Post pc L (.int i :: .ref k :: st) n h := by
  intro p l e R s m args below meth c H locs cells slots ls A ad ad0 n0 hF hS hn hc hl hst hL
  exact va_zald hF.1 hF.2.1 hF.2.2.2.2.2.2.2.2.2.1 hS.1 k 1 (q_w_a hk hh) rfl hi dc (K p l e R s m args below meth c H locs cells slots ls A ad ad0 n0 hF hS hn hc hl (q_os_c q_ov_i (q_os_t (q_os_t hst))) hL)
theorem r_cald {k len : Nat} {f : Nat → Int32} {i : Int32} (dc : decode M.2.2.1 pc = .ok (.caload, 1)) (hk : k < n) (hh : h k = .inl (2, (len, .inl f))) (hi : vp_in i len) (K : q_W G M d C S Post (pc + 1) L (.int (f i.toNatClampNeg) :: st) n h) : q_W G M d C S Post pc L (.int i :: .ref k :: st) n h := by
  intro p l e R s m args below meth c H locs cells slots ls A ad ad0 n0 hF hS hn hc hl hst hL
  exact va_cald hF.1 hF.2.1 hF.2.2.2.2.2.2.2.2.2.1 hS.1 k 2 (q_w_a hk hh) rfl hi dc (K p l e R s m args below meth c H locs cells slots ls A ad ad0 n0 hF hS hn hc hl (q_os_c q_ov_i (q_os_t (q_os_t hst))) hL)
theorem r_lald {k len : Nat} {f : Nat → Int64} {i : Int32} (dc : decode M.2.2.1 pc = .ok (.laload, 1)) (hk : k < n) (hh : h k = .inl (3, (len, .inr (.inl f)))) (hi : vp_in i len) (K : q_W G M d C S Post (pc + 1) L (.long (f i.toNatClampNeg) :: st) n h) : q_W G M d C S Post pc L (.int i :: .ref k :: st) n h := by
  intro p l e R s m args below meth c H locs cells slots ls A ad ad0 n0 hF hS hn hc hl hst hL
  exact va_lald hF.1 hF.2.1 hF.2.2.2.2.2.2.2.2.2.1 hS.1 k 3 (q_w_a hk hh) rfl hi dc (K p l e R s m args below meth c H locs cells slots ls A ad ad0 n0 hF hS hn hc hl (q_os_c q_ov_l (q_os_t (q_os_t hst))) hL)
theorem r_dald {k len : Nat} {f : Nat → UInt64} {i : Int32} (dc : decode M.2.2.1 pc = .ok (.daload, 1)) (hk : k < n) (hh : h k = .inl (4, (len, .inr (.inr (.inr (.inl f)))))) (hi : vp_in i len) (K : q_W G M d C S Post (pc + 1) L (.double (f i.toNatClampNeg) :: st) n h) : q_W G M d C S Post pc L (.int i :: .ref k :: st) n h := by
  intro p l e R s m args below meth c H locs cells slots ls A ad ad0 n0 hF hS hn hc hl hst hL
  exact va_dald hF.1 hF.2.1 hF.2.2.2.2.2.2.2.2.2.1 hS.1 k 4 (q_w_a hk hh) rfl hi dc (K p l e R s m args below meth c H locs cells slots ls A ad ad0 n0 hF hS hn hc hl (q_os_c q_ov_d (q_os_t (q_os_t hst))) hL)
theorem r_iast {k len : Nat} {f : Nat → Int32} {i : Int32} {x : Int32} (dc : decode M.2.2.1 pc = .ok (.iastore, 1)) (hk : k < n) (hh : h k = .inl (0, (len, .inl (f)))) (hi : vp_in i len) (K : q_W G M d C S Post (pc + 1) L st n (va_up h k (.inl (0, (len, .inl (upd f i.toNatClampNeg x)))))) : q_W G M d C S Post pc L (.int x :: .int i :: .ref k :: st) n h := by
  intro p l e R s m args below meth c H locs cells slots ls A ad ad0 n0 hF hS hn hc hl hst hL
  refine va_iast hF.1 hF.2.1 hF.2.2.2.2.2.2.2.2.2.1 hS.1 hS.2.1 hS.2.2.1 k 0 (q_w_a hk hh) rfl hi dc (fun H1 locs1 hP hD hSS => ?_)
  have e1 : (q_w G.2.1 ad n h).set k (ad k, .inl (G.2.1 0, len, .inl (upd f i.toNatClampNeg x))) = q_w G.2.1 ad n (va_up h k (.inl (0, (len, .inl (upd f i.toNatClampNeg x))))) := by
    rw [← q_w_set hk]
    rfl
  have hP : va_P G.1 vwCl (q_w G.2.1 ad n (va_up h k (.inl (0, (len, .inl (upd f i.toNatClampNeg x)))))) H1 := e1 ▸ hP
  have hD : va_D A (q_w G.2.1 ad n (va_up h k (.inl (0, (len, .inl (upd f i.toNatClampNeg x)))))) := e1 ▸ hD
  exact (K p l e R s m args below meth c H1 locs1 cells slots ls A ad ad0 n0 hF ⟨hP, hD, hSS, q_ok_set hS.2.2.2.1 (q_ok_n (fun f q => by cases q)), hS.2.2.2.2⟩ hn hc hl (q_os_t (q_os_t (q_os_t hst))) hL)
theorem r_zast {k len : Nat} {f : Nat → Int32} {i : Int32} {x : Int32} (dc : decode M.2.2.1 pc = .ok (.bastore, 1)) (hk : k < n) (hh : h k = .inl (1, (len, .inl (f)))) (hi : vp_in i len) (K : q_W G M d C S Post (pc + 1) L st n (va_up h k (.inl (1, (len, .inl (upd f i.toNatClampNeg (vp_nar .boolean x))))))) : q_W G M d C S Post pc L (.int x :: .int i :: .ref k :: st) n h := by
  intro p l e R s m args below meth c H locs cells slots ls A ad ad0 n0 hF hS hn hc hl hst hL
  refine va_zast hF.1 hF.2.1 hF.2.2.2.2.2.2.2.2.2.1 hS.1 hS.2.1 hS.2.2.1 k 1 (q_w_a hk hh) rfl hi dc (fun H1 locs1 hP hD hSS => ?_)
  have e1 : (q_w G.2.1 ad n h).set k (ad k, .inl (G.2.1 1, len, .inl (upd f i.toNatClampNeg (vp_nar .boolean x)))) = q_w G.2.1 ad n (va_up h k (.inl (1, (len, .inl (upd f i.toNatClampNeg (vp_nar .boolean x)))))) := by
    rw [← q_w_set hk]
    rfl
  have hP : va_P G.1 vwCl (q_w G.2.1 ad n (va_up h k (.inl (1, (len, .inl (upd f i.toNatClampNeg (vp_nar .boolean x))))))) H1 := e1 ▸ hP
  have hD : va_D A (q_w G.2.1 ad n (va_up h k (.inl (1, (len, .inl (upd f i.toNatClampNeg (vp_nar .boolean x))))))) := e1 ▸ hD
  exact (K p l e R s m args below meth c H1 locs1 cells slots ls A ad ad0 n0 hF ⟨hP, hD, hSS, q_ok_set hS.2.2.2.1 (q_ok_n (fun f q => by cases q)), hS.2.2.2.2⟩ hn hc hl (q_os_t (q_os_t (q_os_t hst))) hL)
theorem r_cast {k len : Nat} {f : Nat → Int32} {i : Int32} {x : Int32} (dc : decode M.2.2.1 pc = .ok (.castore, 1)) (hk : k < n) (hh : h k = .inl (2, (len, .inl (f)))) (hi : vp_in i len) (K : q_W G M d C S Post (pc + 1) L st n (va_up h k (.inl (2, (len, .inl (upd f i.toNatClampNeg (vp_nar .char x))))))) : q_W G M d C S Post pc L (.int x :: .int i :: .ref k :: st) n h := by
  intro p l e R s m args below meth c H locs cells slots ls A ad ad0 n0 hF hS hn hc hl hst hL
  refine va_cast hF.1 hF.2.1 hF.2.2.2.2.2.2.2.2.2.1 hS.1 hS.2.1 hS.2.2.1 k 2 (q_w_a hk hh) rfl hi dc (fun H1 locs1 hP hD hSS => ?_)
  have e1 : (q_w G.2.1 ad n h).set k (ad k, .inl (G.2.1 2, len, .inl (upd f i.toNatClampNeg (vp_nar .char x)))) = q_w G.2.1 ad n (va_up h k (.inl (2, (len, .inl (upd f i.toNatClampNeg (vp_nar .char x)))))) := by
    rw [← q_w_set hk]
    rfl
  have hP : va_P G.1 vwCl (q_w G.2.1 ad n (va_up h k (.inl (2, (len, .inl (upd f i.toNatClampNeg (vp_nar .char x))))))) H1 := e1 ▸ hP
  have hD : va_D A (q_w G.2.1 ad n (va_up h k (.inl (2, (len, .inl (upd f i.toNatClampNeg (vp_nar .char x))))))) := e1 ▸ hD
  exact (K p l e R s m args below meth c H1 locs1 cells slots ls A ad ad0 n0 hF ⟨hP, hD, hSS, q_ok_set hS.2.2.2.1 (q_ok_n (fun f q => by cases q)), hS.2.2.2.2⟩ hn hc hl (q_os_t (q_os_t (q_os_t hst))) hL)
theorem r_last {k len : Nat} {f : Nat → Int64} {i : Int32} {x : Int64} (dc : decode M.2.2.1 pc = .ok (.lastore, 1)) (hk : k < n) (hh : h k = .inl (3, (len, .inr (.inl (f))))) (hi : vp_in i len) (K : q_W G M d C S Post (pc + 1) L st n (va_up h k (.inl (3, (len, .inr (.inl (vp_updL f i.toNatClampNeg x))))))) : q_W G M d C S Post pc L (.long x :: .int i :: .ref k :: st) n h := by
  intro p l e R s m args below meth c H locs cells slots ls A ad ad0 n0 hF hS hn hc hl hst hL
  refine va_last hF.1 hF.2.1 hF.2.2.2.2.2.2.2.2.2.1 hS.1 hS.2.1 hS.2.2.1 k 3 (q_w_a hk hh) rfl hi dc (fun H1 locs1 hP hD hSS => ?_)
  have e1 : (q_w G.2.1 ad n h).set k (ad k, .inl (G.2.1 3, len, .inr (.inl (vp_updL f i.toNatClampNeg x)))) = q_w G.2.1 ad n (va_up h k (.inl (3, (len, .inr (.inl (vp_updL f i.toNatClampNeg x)))))) := by
    rw [← q_w_set hk]
    rfl
  have hP : va_P G.1 vwCl (q_w G.2.1 ad n (va_up h k (.inl (3, (len, .inr (.inl (vp_updL f i.toNatClampNeg x))))))) H1 := e1 ▸ hP
  have hD : va_D A (q_w G.2.1 ad n (va_up h k (.inl (3, (len, .inr (.inl (vp_updL f i.toNatClampNeg x))))))) := e1 ▸ hD
  exact (K p l e R s m args below meth c H1 locs1 cells slots ls A ad ad0 n0 hF ⟨hP, hD, hSS, q_ok_set hS.2.2.2.1 (q_ok_n (fun f q => by cases q)), hS.2.2.2.2⟩ hn hc hl (q_os_t (q_os_t (q_os_t hst))) hL)
theorem r_dast {k len : Nat} {f : Nat → UInt64} {i : Int32} {x : UInt64} (dc : decode M.2.2.1 pc = .ok (.dastore, 1)) (hk : k < n) (hh : h k = .inl (4, (len, .inr (.inr (.inr (.inl (f))))))) (hi : vp_in i len) (K : q_W G M d C S Post (pc + 1) L st n (va_up h k (.inl (4, (len, .inr (.inr (.inr (.inl (vf_upd f i.toNatClampNeg x))))))))) : q_W G M d C S Post pc L (.double x :: .int i :: .ref k :: st) n h := by
  intro p l e R s m args below meth c H locs cells slots ls A ad ad0 n0 hF hS hn hc hl hst hL
  refine va_dast hF.1 hF.2.1 hF.2.2.2.2.2.2.2.2.2.1 hS.1 hS.2.1 hS.2.2.1 k 4 (q_w_a hk hh) rfl hi dc (fun H1 locs1 hP hD hSS => ?_)
  have e1 : (q_w G.2.1 ad n h).set k (ad k, .inl (G.2.1 4, len, .inr (.inr (.inr (.inl (vf_upd f i.toNatClampNeg x)))))) = q_w G.2.1 ad n (va_up h k (.inl (4, (len, .inr (.inr (.inr (.inl (vf_upd f i.toNatClampNeg x)))))))) := by
    rw [← q_w_set hk]
    rfl
  have hP : va_P G.1 vwCl (q_w G.2.1 ad n (va_up h k (.inl (4, (len, .inr (.inr (.inr (.inl (vf_upd f i.toNatClampNeg x))))))))) H1 := e1 ▸ hP
  have hD : va_D A (q_w G.2.1 ad n (va_up h k (.inl (4, (len, .inr (.inr (.inr (.inl (vf_upd f i.toNatClampNeg x))))))))) := e1 ▸ hD
  exact (K p l e R s m args below meth c H1 locs1 cells slots ls A ad ad0 n0 hF ⟨hP, hD, hSS, q_ok_set hS.2.2.2.1 (q_ok_n (fun f q => by cases q)), hS.2.2.2.2⟩ hn hc hl (q_os_t (q_os_t (q_os_t hst))) hL)
theorem r_aald {k len : Nat} {f : Nat → Option Nat} {i : Int32} {r : Nat} (dc : decode M.2.2.1 pc = .ok (.aaload, 1)) (hk : k < n) (hh : h k = .inl (5, (len, .inr (.inr (.inr (.inr f)))))) (hi : vp_in i len) (hr : f i.toNatClampNeg = some r) (K : q_W G M d C S Post (pc + 1) L (.ref r :: st) n h) : q_W G M d C S Post pc L (.int i :: .ref k :: st) n h := by
  intro p l e R s m args below meth c H locs cells slots ls A ad ad0 n0 hF hS hn hc hl hst hL
  have hlt : i.toNatClampNeg < len := Nat.not_le.mp fun q => hi (Or.inr q)
  have hok := hS.2.2.2.1 k hk
  rw [hh] at hok
  have ht : (q_ty G.2.1)[5]? = some (G.2.1 5, .array .int) := rfl
  exact W.aald (v := .ref (ad r)) (ty := .array .int) hF.1 hF.2.1 (hS.1 k _ (q_w_a hk hh)) ((hF.2.2.2.2.2.2.2.2.2.1.2 5 _ ht).1 len (fun j => va_rf ((f j).map ad))) rfl (fun q => by cases q) (by show ¬ (i < 0 ∨ (arrV _ _ _).slots.size ≤ _); rw [arrV_size]; exact hi) (by show (arrV (G.2.1 5) len (fun j => va_rf ((f j).map ad))).slots[i.toNatClampNeg]? = _; rw [arrV_read _ _ hlt, hr]; rfl) rfl rfl dc (K p l e R s m args below meth c H locs cells slots ls A ad ad0 n0 hF hS hn hc hl (q_os_c (q_ov_r (Or.inl (hok f rfl _ _ hr))) (q_os_t (q_os_t hst))) hL)
theorem r_alen {k t : Nat} {a : vp_A} {v : Int32} (dc : decode M.2.2.1 pc = .ok (.arraylength, 1)) (hk : k < n) (hh : h k = .inl (t, a)) (ht : t < 6) (hv : Int32.ofNat a.1 = v) (K : q_W G M d C S Post (pc + 1) L (.int v :: st) n h) : q_W G M d C S Post pc L (.ref k :: st) n h := by
  intro p l e R s m args below meth c H locs cells slots ls A ad ad0 n0 hF hS hn hc hl hst hL
  obtain ⟨ty, hty⟩ : ∃ ty, (q_ty G.2.1)[t]? = some (G.2.1 t, ty) := by
    match t, ht with
    | 0, _ => exact ⟨_, rfl⟩
    | 1, _ => exact ⟨_, rfl⟩
    | 2, _ => exact ⟨_, rfl⟩
    | 3, _ => exact ⟨_, rfl⟩
    | 4, _ => exact ⟨_, rfl⟩
    | 5, _ => exact ⟨_, rfl⟩
  exact va_alen hF.1 hF.2.1 hF.2.2.2.2.2.2.2.2.2.1 hS.1 k t (q_w_a hk hh) hty hv dc (K p l e R s m args below meth c H locs cells slots ls A ad ad0 n0 hF hS hn hc hl (q_os_c q_ov_i (q_os_t hst)) hL)
theorem r_slen {v : Int32} (dc : decode M.2.2.1 pc = .ok (.arraylength, 1)) (hv : Int32.ofNat G.2.2.1 = v) (K : q_W G M d C S Post (pc + 1) L (.int v :: st) n h) : q_W G M d C S Post pc L (.ref 1000000 :: st) n h := by
  intro p l e R s m args below meth c H locs cells slots ls A ad ad0 n0 hF hS hn hc hl hst hL
  subst hv
  exact va_slen hF.1 hF.2.1 hF.2.2.2.2.2.2.2.2.2.2.2.2.2.1.1 hF.2.2.2.2.2.2.2.2.2.2.2.2.2.1.2.1 hF.2.2.2.2.2.2.2.2.2.2.2.2.2.1.2.2 hS.2.2.1 dc (K p l e R s m args below meth c H locs cells slots ls A ad ad0 n0 hF hS hn hc hl (q_os_c q_ov_i (q_os_t hst)) hL)
theorem r_sld {i : Int32} (dc : decode M.2.2.1 pc = .ok (.iaload, 1)) (hi : vp_in i G.2.2.1) (K : q_W G M d C S Post (pc + 1) L (.int (G.2.2.2 i.toNatClampNeg) :: st) n h) : q_W G M d C S Post pc L (.int i :: .ref 1000000 :: st) n h := by
  intro p l e R s m args below meth c H locs cells slots ls A ad ad0 n0 hF hS hn hc hl hst hL
  exact va_sld hF.1 hF.2.1 hF.2.2.2.2.2.2.2.2.2.2.2.2.2.1.1 hF.2.2.2.2.2.2.2.2.2.2.2.2.2.1.2.1 hF.2.2.2.2.2.2.2.2.2.2.2.2.2.1.2.2 hS.2.2.1 hi dc (K p l e R s m args below meth c H locs cells slots ls A ad ad0 n0 hF hS hn hc hl (q_os_c q_ov_i (q_os_t (q_os_t hst))) hL)
theorem r_lld {i : Int32} (dc : decode M.2.2.1 pc = .ok (.iaload, 1)) (hi : vp_in i 3) (K : q_W G M d C S Post (pc + 1) L (.int (q_lim i.toNatClampNeg) :: st) n h) : q_W G M d C S Post pc L (.int i :: .ref 1000001 :: st) n h := by
  intro p l e R s m args below meth c H locs cells slots ls A ad ad0 n0 hF hS hn hc hl hst hL
  exact va_sld hF.1 hF.2.1 hF.2.2.2.2.2.2.2.2.2.2.2.2.2.2.1.2.1 hF.2.2.2.2.2.2.2.2.2.2.2.2.2.2.1.2.2.1 hF.2.2.2.2.2.2.2.2.2.2.2.2.2.2.1.2.2.2 hS.2.2.1 hi dc (K p l e R s m args below meth c H locs cells slots ls A ad ad0 n0 hF hS hn hc hl (q_os_c q_ov_i (q_os_t (q_os_t hst))) hL)
theorem r_gets {idx : Nat} (dc : decode M.2.2.1 pc = .ok (.getstatic idx, 3)) (hw : Cond.fieldLink M.1 idx RX11 "JOB_LIMITS" "[I" ∈ q_tw) (K : q_W G M d C S Post (pc + 3) L (.ref 1000001 :: st) n h) : q_W G M d C S Post pc L st n h := by
  intro p l e R s m args below meth c H locs cells slots ls A ad ad0 n0 hF hS hn hc hl hst hL
  exact va_gets hF.1 hF.2.1 hF.2.2.2.2.2.2.2.2.2.2.2.2.2.2.1.1 hS.2.2.1 hF.2.2.2.2.2.2.2.1 (hF.2.2.2.2.2.2.2.2.1 _ hw) (fun _ q => q) dc (K p l e R s m args below meth c H locs cells slots ls A ad ad0 n0 hF hS hn hc hl (q_os_c (q_ov_r (Or.inr (Nat.le_of_ble_eq_true rfl))) hst) hL)
theorem r_mmax {idx : Nat} {x y : Int32} (dc : decode M.2.2.1 pc = .ok (.invokestatic idx, 3)) (hw : Cond.methodLink M.1 idx Lib.Math.max.name ∈ q_tw) (hw2 : Cond.static Lib.Math.max.name ∈ q_tw) (hw3 : Cond.initialized "java/lang/Math" ∈ q_tw) (hw4 : Cond.code Lib.Math.max.name Lib.Math.max.code 2 (some .int) ∈ q_tw) (hd : 1 ≤ d) (hr : (st.map fun v => v.category).sum ≤ 40) (K : q_W G M d C S Post (pc + 3) L (.int (if x < y then y else x) :: st) n h) : q_W G M d C S Post pc L (.int y :: .int x :: st) n h := by
  intro p l e R s m args below meth c H locs cells slots ls A ad ad0 n0 hF hS hn hc hl hst hL
  have hcat : ((st.map (q_v ad)).map fun v => v.category).sum = (st.map fun v => v.category).sum := by
    rw [List.map_map]
    exact congrArg List.sum (List.map_congr_left fun v _ => q_v_cat)
  have hts := hF.2.2.2.2.2.2.2.2.1
  have hR := hF.2.2.2.2.2.2.2.2.2.2.2.1
  exact va_mmax hF.1 hF.2.1 (hF.2.2.1.trans hl.1.symm) hF.2.2.2.2.2.2.2.1 (hts _ hw) (hts _ hw2) (hts _ hw3) (hts _ hw4) (by omega) (by rw [hcat]; omega) (by omega) (by omega) dc (K p l e R s m args below meth c H locs cells slots ls A ad ad0 n0 hF hS hn hc hl (q_os_c q_ov_i (q_os_t (q_os_t hst))) hL)
theorem r_mmin {idx : Nat} {x y : Int32} (dc : decode M.2.2.1 pc = .ok (.invokestatic idx, 3)) (hw : Cond.methodLink M.1 idx Lib.Math.min.name ∈ q_tw) (hw2 : Cond.static Lib.Math.min.name ∈ q_tw) (hw3 : Cond.initialized "java/lang/Math" ∈ q_tw) (hw4 : Cond.code Lib.Math.min.name Lib.Math.min.code 2 (some .int) ∈ q_tw) (hd : 1 ≤ d) (hr : (st.map fun v => v.category).sum ≤ 40) (K : q_W G M d C S Post (pc + 3) L (.int (if y < x then y else x) :: st) n h) : q_W G M d C S Post pc L (.int y :: .int x :: st) n h := by
  intro p l e R s m args below meth c H locs cells slots ls A ad ad0 n0 hF hS hn hc hl hst hL
  have hcat : ((st.map (q_v ad)).map fun v => v.category).sum = (st.map fun v => v.category).sum := by
    rw [List.map_map]
    exact congrArg List.sum (List.map_congr_left fun v _ => q_v_cat)
  have hts := hF.2.2.2.2.2.2.2.2.1
  have hR := hF.2.2.2.2.2.2.2.2.2.2.2.1
  exact va_mmin hF.1 hF.2.1 (hF.2.2.1.trans hl.1.symm) hF.2.2.2.2.2.2.2.1 (hts _ hw) (hts _ hw2) (hts _ hw3) (hts _ hw4) (by omega) (by rw [hcat]; omega) (by omega) (by omega) dc (K p l e R s m args below meth c H locs cells slots ls A ad ad0 n0 hF hS hn hc hl (q_os_c q_ov_i (q_os_t (q_os_t hst))) hL)
theorem r_mabs {idx : Nat} {x : Int32} (dc : decode M.2.2.1 pc = .ok (.invokestatic idx, 3)) (hw : Cond.methodLink M.1 idx Lib.Math.abs.name ∈ q_tw) (hw2 : Cond.static Lib.Math.abs.name ∈ q_tw) (hw3 : Cond.initialized "java/lang/Math" ∈ q_tw) (hw4 : Cond.code Lib.Math.abs.name Lib.Math.abs.code 1 (some .int) ∈ q_tw) (hd : 1 ≤ d) (hr : (st.map fun v => v.category).sum ≤ 40) (K : q_W G M d C S Post (pc + 3) L (.int (if 0 ≤ x then x else 0 - x) :: st) n h) : q_W G M d C S Post pc L (.int x :: st) n h := by
  intro p l e R s m args below meth c H locs cells slots ls A ad ad0 n0 hF hS hn hc hl hst hL
  have hcat : ((st.map (q_v ad)).map fun v => v.category).sum = (st.map fun v => v.category).sum := by
    rw [List.map_map]
    exact congrArg List.sum (List.map_congr_left fun v _ => q_v_cat)
  have hts := hF.2.2.2.2.2.2.2.2.1
  have hR := hF.2.2.2.2.2.2.2.2.2.2.2.1
  exact va_mabs hF.1 hF.2.1 (hF.2.2.1.trans hl.1.symm) hF.2.2.2.2.2.2.2.1 (hts _ hw) (hts _ hw2) (hts _ hw3) (hts _ hw4) (by omega) (by rw [hcat]; omega) (by omega) (by omega) dc (K p l e R s m args below meth c H locs cells slots ls A ad ad0 n0 hF hS hn hc hl (q_os_c q_ov_i (q_os_t hst)) hL)
theorem r_copy {idx k0 k1 n0' n1' : Nat} {f g : Nat → Int32} {sp dp m' : Int32} (dc : decode M.2.2.1 pc = .ok (.invokestatic idx, 3)) (hw : Cond.methodLink M.1 idx arraycopyName ∈ q_tw) (hw2 : Cond.native arraycopyName ∈ q_tw) (hw3 : Cond.static arraycopyName ∈ q_tw) (hw4 : Cond.initialized "java/lang/System" ∈ q_tw) (hd : 1 ≤ d) (hr : (st.map fun v => v.category).sum ≤ 40)
    (hk0 : k0 < n) (hh0 : h k0 = .inl (0, (n0', .inl f))) (hk1 : k1 < n) (hh1 : h k1 = .inl (0, (n1', .inl g))) (h1 : ¬ sp < 0) (h2 : ¬ dp < 0) (h3 : ¬ m' < 0) (h4 : sp.toNatClampNeg + m'.toNatClampNeg ≤ n0') (h5 : dp.toNatClampNeg + m'.toNatClampNeg ≤ n1')
    (K : q_W G M d C S Post (pc + 3) L st n (va_up h k1 (.inl (0, (n1', .inl (va_cpy f g sp.toNatClampNeg dp.toNatClampNeg m'.toNatClampNeg)))))) : q_W G M d C S Post pc L (.int m' :: .int dp :: .ref k1 :: .int sp :: .ref k0 :: st) n h := by
  intro p l e R s m args below meth c H locs cells slots ls A ad ad0 n0 hF hS hn hc hl hst hL
  have hcat : ((st.map (q_v ad)).map fun v => v.category).sum = (st.map fun v => v.category).sum := by
    rw [List.map_map]
    exact congrArg List.sum (List.map_congr_left fun v _ => q_v_cat)
  have hts := hF.2.2.2.2.2.2.2.2.1
  have hR := hF.2.2.2.2.2.2.2.2.2.2.2.1
  have hnf : nativeFrameWords "java/lang/System" "arraycopy" 5 ≤ 40 := by decide
  refine va_copyi hF.1 hF.2.1 (hF.2.2.1.trans hl.1.symm) hF.2.2.2.2.2.2.2.1 (hts _ hw) (hts _ hw2) (hts _ hw3) (hts _ hw4) hF.2.2.2.2.2.2.2.2.2.1 hS.1 hS.2.1 hS.2.2.1 k0 k1 0 0 (ty := .int) (q_w_a hk0 hh0) (q_w_a hk1 hh1) rfl rfl rfl h1 h2 h3 h4 h5 (fun i _ => rfl) (by omega) (by rw [hcat]; omega) dc (fun H1 locs1 hP hD hSS => ?_)
  have e1 : (q_w G.2.1 ad n h).set k1 (ad k1, .inl (G.2.1 0, n1', .inl (va_cpy f g sp.toNatClampNeg dp.toNatClampNeg m'.toNatClampNeg))) = q_w G.2.1 ad n (va_up h k1 (.inl (0, (n1', .inl (va_cpy f g sp.toNatClampNeg dp.toNatClampNeg m'.toNatClampNeg))))) := by
    rw [← q_w_set hk1]
    rfl
  have hP : va_P G.1 vwCl (q_w G.2.1 ad n (va_up h k1 (.inl (0, (n1', .inl (va_cpy f g sp.toNatClampNeg dp.toNatClampNeg m'.toNatClampNeg)))))) H1 := e1 ▸ hP
  have hD : va_D A (q_w G.2.1 ad n (va_up h k1 (.inl (0, (n1', .inl (va_cpy f g sp.toNatClampNeg dp.toNatClampNeg m'.toNatClampNeg)))))) := e1 ▸ hD
  exact (K p l e R s m args below meth c H1 locs1 cells slots ls A ad ad0 n0 hF ⟨hP, hD, hSS, q_ok_set hS.2.2.2.1 (q_ok_n (fun f q => by cases q)), hS.2.2.2.2⟩ hn hc hl (q_os_t (q_os_t (q_os_t (q_os_t (q_os_t hst))))) hL)
theorem r_iret {x : Int32} {ty : FieldType} (dc : decode M.2.2.1 pc = .ok (.ireturn, 1)) (hrt : M.2.2.2.2.1 = some ty) (hnr : narrow ty (.int x) = .int x) (hp : Post (.inl (some (.int x))) n h) : q_W G M d C S Post pc L [.int x] n h := by
  intro p l e R s m args below meth c H locs cells slots ls A ad ad0 n0 hF hS hn hc hl hst hL
  have hlk := hF.2.2.2.2.1
  refine W.widen (k := R.cells) (n := R.slots) (by omega) (by omega) (vx_ret ?_)
  exact W.zret hF.1 hF.2.1 (hF.2.2.2.1.trans hrt) hnr (fun t ht hW => ⟨(some (.int x)), n, h, ad, rfl, hp, (fun y hy => by cases hy; exact q_ov_i), hn.1, hn.2, by rw [ht]; exact hS.1, hS.2.1, hS.2.2.2.1, hS.2.2.2.2, hS.2.2.1.F ht⟩) hS.2.2.1.2.2 dc hlk
theorem r_dret {x : UInt64} (dc : decode M.2.2.1 pc = .ok (.dreturn, 1)) (hrt : M.2.2.2.2.1 = some .double) (hp : Post (.inl (some (.double x))) n h) : q_W G M d C S Post pc L [.double x] n h := by
  intro p l e R s m args below meth c H locs cells slots ls A ad ad0 n0 hF hS hn hc hl hst hL
  have hlk := hF.2.2.2.2.1
  refine W.widen (k := R.cells) (n := R.slots) (by omega) (by omega) (vx_ret ?_)
  exact W.dret hF.1 hF.2.1 (hF.2.2.2.1.trans hrt) (fun t ht hW => ⟨(some (.double x)), n, h, ad, rfl, hp, (fun y hy => by cases hy; exact q_ov_d), hn.1, hn.2, by rw [ht]; exact hS.1, hS.2.1, hS.2.2.2.1, hS.2.2.2.2, hS.2.2.1.F ht⟩) hS.2.2.1.2.2 dc hlk
theorem r_vret  (dc : decode M.2.2.1 pc = .ok (.return_, 1)) (hrt : M.2.2.2.2.1 = none) (hp : Post (.inl none) n h) : q_W G M d C S Post pc L [] n h := by
  intro p l e R s m args below meth c H locs cells slots ls A ad ad0 n0 hF hS hn hc hl hst hL
  have hlk := hF.2.2.2.2.1
  refine W.widen (k := R.cells) (n := R.slots) (by omega) (by omega) (vx_ret ?_)
  exact W.vret hF.1 hF.2.1 (hF.2.2.2.1.trans hrt) (fun t ht hW => ⟨none, n, h, ad, rfl, hp, (fun y hy => by cases hy), hn.1, hn.2, by rw [ht]; exact hS.1, hS.2.1, hS.2.2.2.1, hS.2.2.2.2, hS.2.2.1.F ht⟩) hS.2.2.1.2.2 dc hlk
end QR3
