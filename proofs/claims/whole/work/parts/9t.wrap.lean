/-! ===== the law: what each call of the class answers, by number ===== -/
theorem lwc_13 : Cond.classLink RL 13 q_IA ∈ q_tw := (q_in (q_t3 (List.mem_of_getElem? (i := 136) (by decide +kernel))) (by decide +kernel))
theorem lwe_13 : Cond.castable q_IA q_IA ∈ q_ew := (List.mem_filter.mpr ⟨q_t3 (List.mem_of_getElem? (i := 152) (by decide +kernel)), rfl⟩)
theorem lwc_15 : Cond.classLink RL 15 q_IS ∈ q_tw := (q_in (q_t3 (List.mem_of_getElem? (i := 137) (by decide +kernel))) (by decide +kernel))
theorem lwe_15 : Cond.castable q_IS q_IS ∈ q_ew := (List.mem_filter.mpr ⟨q_t3 (List.mem_of_getElem? (i := 221) (by decide +kernel)), rfl⟩)
theorem lwc_21 : Cond.classLink RL 21 q_IO ∈ q_tw := (q_in (q_t4 (List.mem_of_getElem? (i := 2) (by decide +kernel))) (by decide +kernel))
theorem lwe_21 : Cond.castable q_IO q_IO ∈ q_ew := (List.mem_filter.mpr ⟨q_t4 (List.mem_of_getElem? (i := 13) (by decide +kernel)), rfl⟩)
theorem lwc_49 : Cond.classLink RL 49 q_NS ∈ q_tw := (q_in (q_t4 (List.mem_of_getElem? (i := 127) (by decide +kernel))) (by decide +kernel))
theorem lwe_49 : Cond.castable q_NS q_NS ∈ q_ew := (List.mem_filter.mpr ⟨q_t4 (List.mem_of_getElem? (i := 138) (by decide +kernel)), rfl⟩)
/-- doubles: only what lies inside counts -/
theorem q_W_dc {G : q_G} {M : q_M} {d C S : Nat} {Post : q_R → Nat → q_H → Prop} {pc : Nat} {L : List (Option Value)} {st : List Value} {n k len t : Nat} {h : q_H} {f g : Nat → UInt64} (hk : k < n) (hg : ∀ j, j < len → g j = f j) (K : q_W G M d C S Post pc L st n (va_up h k (.inl (t, (len, .inr (.inr (.inr (.inl f)))))))) : q_W G M d C S Post pc L st n (va_up h k (.inl (t, (len, .inr (.inr (.inr (.inl g))))))) := by
  intro p l e R s m args below meth c H locs cells slots ls A ad ad0 n0 hF hSt hn hc hl hst hL
  obtain ⟨s1, s2, s3, s4, s5⟩ := hSt
  have hat : ∀ i, i < n → i ≠ k → (q_w G.2.1 ad n (va_up h k (.inl (t, (len, .inr (.inr (.inr (.inl f))))))))[i]? = (q_w G.2.1 ad n (va_up h k (.inl (t, (len, .inr (.inr (.inr (.inl g))))))))[i]? := fun i hi e1 => by
    rw [q_w_at hi, q_w_at hi, va_up_n e1, va_up_n e1]
  have hb : ∀ (i : Nat) (q : Nat × va_E), (q_w G.2.1 ad n (va_up h k (.inl (t, (len, .inr (.inr (.inr (.inl f))))))))[i]? = some q → ∃ q', (q_w G.2.1 ad n (va_up h k (.inl (t, (len, .inr (.inr (.inr (.inl g))))))))[i]? = some q' ∧ q'.1 = q.1 := fun i q hq => by
    have hi := (q_w_inv hq).1
    rw [q_w_at hi] at hq
    cases hq
    exact ⟨_, q_w_at hi, rfl⟩
  refine K p l e R s m args below meth c H locs cells slots ls A ad ad0 n0 hF ⟨?_, ?_, s3, ?_, s5⟩ hn hc hl hst hL
  · intro i q hq
    by_cases e1 : i = k
    · subst e1
      rw [q_w_at hk, va_up_s] at hq
      cases hq
      have h1 := s1 i _ (q_w_at hk)
      rw [va_up_s] at h1
      have h1 : H[ad i]? = some (arrV (G.2.1 t) len (fun j => .double (g j))) := h1
      show H[ad i]? = some (arrV (G.2.1 t) len (fun j => .double (f j)))
      rw [h1]
      unfold arrV
      have e2 : (Array.ofFn (n := len) fun j => Value.double (g j.val)) = (Array.ofFn (n := len) fun j => Value.double (f j.val)) := by
        congr 1
        funext j
        rw [hg j.val j.isLt]
      rw [e2]
    · exact s1 i q ((hat i (q_w_inv hq).1 e1) ▸ hq)
  · refine ⟨fun i j p1 q1 h1 h2 h3 => ?_, fun i q hq => ?_⟩
    · obtain ⟨p2, a1, a2⟩ := hb i p1 h1
      obtain ⟨q2, b1, b2⟩ := hb j q1 h2
      exact s2.1 i j p2 q2 a1 b1 (by rw [a2, b2]; exact h3)
    · obtain ⟨p2, a1, a2⟩ := hb i q hq
      rw [← a2]; exact s2.2 i p2 a1
  · intro i hi
    by_cases e1 : i = k
    · subst e1; rw [va_up_s]; intro f9 hf9; cases hf9
    · have := s4 i hi
      rw [va_up_n e1] at this ⊢
      exact this
section SR9
variable {G : q_G} {M : q_M} {d C S : Nat} {P : q_R → s_T → Prop} {pc : Nat} {L : List (Option Value)} {st : List Value} {s : s_T}
theorem lay234 : q_lay 234 = .inl (3, 1, none) := by decide +kernel
theorem lay235 : q_lay 235 = .inl (4, 1, none) := by decide +kernel
theorem s_lald (dc : decode M.2.2.1 pc = .ok (.laload, 1)) (K : s_W G M d C S P (pc + 1) L (.long (s 234 0).toInt64 :: st) s) : s_W G M d C S P pc L (.int (nI 0) :: .ref 234 :: st) s := by
  refine r_lald (len := 1) (f := fun j => (s 234 j).toInt64) dc (by decide) ?_ (n_bd (by decide) (by decide)) K
  unfold q_hs
  rw [lay234]
  rfl
theorem s_dald (dc : decode M.2.2.1 pc = .ok (.daload, 1)) (K : s_W G M d C S P (pc + 1) L (.double (q_dv (s 235 0) (s 235 1)) :: st) s) : s_W G M d C S P pc L (.int (nI 0) :: .ref 235 :: st) s := by
  refine r_dald (len := 1) (f := fun _ => q_dv (s 235 0) (s 235 1)) dc (by decide) ?_ (n_bd (by decide) (by decide)) K
  unfold q_hs
  rw [lay235]
  rfl
theorem s_last {x : Int32} (dc : decode M.2.2.1 pc = .ok (.lastore, 1)) (K : ∀ s1, s1 234 0 = x → s_fr 234 235 s s1 → s_W G M d C S P (pc + 1) L st s1) : s_W G M d C S P pc L (.long x.toInt64 :: .int (nI 0) :: .ref 234 :: st) s := by
  refine r_last (len := 1) (f := fun j => (s 234 j).toInt64) dc (by decide) ?_ (n_bd (by decide) (by decide)) ?_
  · unfold q_hs
    rw [lay234]
    rfl
  · have e : va_up (q_hs s) 234 (.inl (3, (1, .inr (.inl (vp_updL (fun j => (s 234 j).toInt64) (nI 0).toNatClampNeg x.toInt64))))) = q_hs (s_u s 234 0 x) := by
      unfold s_u
      rw [q_hs_up, lay234]
      have e1 : vp_updL (fun j => (s 234 j).toInt64) (nI 0).toNatClampNeg x.toInt64 = (fun j => (upd (s 234) 0 x j).toInt64) := by
        funext j
        rw [show (nI 0).toNatClampNeg = 0 by decide]
        show (if j = 0 then _ else _) = _
        by_cases ej : j = 0
        · subst ej; rw [if_pos rfl, pk_us]
        · rw [if_neg ej, pk_un ej]
      rw [e1]
      rfl
    rw [e]
    exact K _ s_u_eq (fun k hk => s_u_row (by omega))
theorem s_dast {a b : Int32} (dc : decode M.2.2.1 pc = .ok (.dastore, 1)) (K : ∀ s1, s1 235 0 = a → s1 235 1 = b → s_fr 235 236 s s1 → s_W G M d C S P (pc + 1) L st s1) : s_W G M d C S P pc L (.double (q_dv a b) :: .int (nI 0) :: .ref 235 :: st) s := by
  refine r_dast (len := 1) (f := fun _ => q_dv (s 235 0) (s 235 1)) dc (by decide) ?_ (n_bd (by decide) (by decide)) ?_
  · unfold q_hs
    rw [lay235]
    rfl
  · refine q_W_dc (f := fun _ => q_dv a b) (by decide) (fun j hj => ?_) ?_
    · have hj : j = 0 := by omega
      subst hj
      show (if 0 = (nI 0).toNatClampNeg then _ else _) = _
      rw [if_pos (by decide)]
    · have e : va_up (q_hs s) 235 (.inl (4, (1, .inr (.inr (.inr (.inl (fun _ => q_dv a b))))))) = q_hs (va_up s 235 (fun j => if j = 0 then a else b)) := by
        rw [q_hs_up, lay235]
        rfl
      rw [e]
      exact K _ (by rw [va_up_s]; rfl) (by rw [va_up_s]; rfl) (fun k hk => va_up_n (by omega))
end SR9
theorem c_Z_fr {z : z_T} {s s1 : s_T} (hz : z_wf z) (h : c_Z z s) (hf : s_fr 212 236 s s1) : c_Z z s1 :=
  c_Z_e0 h hz (c_R_fr h.1 hf (by omega) (x_sz hz.1.1).1) ⟨fun k hk => hf k (by omega), by rw [hf 161 (by omega)], fun q hq => by rw [hf q (by omega)]; exact ⟨rfl, rfl⟩⟩
theorem m_Z_fr {z : z_T} {s s1 : s_T} (hM : m_R (z 0) s) (hO : m_O z s) (hf : ∀ k, 212 ≤ k → k < 234 → s1 k = s k) : m_R (z 0) s1 ∧ m_O z s1 := ⟨fun k hk => by rw [hf 213 (by omega) (by omega)]; exact hM k hk, m_O_eq hO ⟨fun k hk => hf k (by omega) (by omega), fun j _ => by rw [hf 212 (by omega) (by omega)]⟩⟩
/-- what a wrapper answers -/
def w_P (a : a_T) (s : s_T) : q_R → s_T → Prop := c_I (fun y9 s1 => y9 = nI a.1 ∧ a.1 < 4 ∧ (a.1 = 0 → s1 234 0 = a.2.1) ∧ c_Z a.2.2 s1 ∧ ∀ k, 212 ≤ k → k < 234 → s1 k = s k)
def w_Pv (a : a_T) (s : s_T) : q_R → s_T → Prop := c_I (fun y9 s1 => y9 = nI a.1 ∧ a.1 < 4 ∧ c_Z a.2.2 s1 ∧ ∀ k, 212 ≤ k → k < 234 → s1 k = s k)
def w_Pd (a : d_T) (z : z_T) (s : s_T) : q_R → s_T → Prop := c_I (fun y9 s1 => y9 = nI a.1 ∧ a.1 < 4 ∧ (a.1 = 0 → s1 235 0 = a.2.1 ∧ s1 235 1 = a.2.2) ∧ c_Z z s1 ∧ ∀ k, 212 ≤ k → k < 234 → s1 k = s k)
theorem w_il {es : List String} {n : Nat} {r0 r : q_R} (h1 : n = 0 → r = r0) (h2 : n ≠ 0 → ∃ E, es[n - 1]? = some E ∧ r = .inr E) {v : Option Value} (hr : r = .inl v) : n = 0 ∧ r0 = .inl v := by
  by_cases e : n = 0
  · exact ⟨e, by rw [← h1 e, hr]⟩
  · obtain ⟨E, -, h3⟩ := h2 e
    rw [hr] at h3; cases h3
theorem w_ir {es : List String} {n : Nat} {v0 : Option Value} {r : q_R} (h1 : n = 0 → r = .inl v0) (h2 : n ≠ 0 → ∃ E, es[n - 1]? = some E ∧ r = .inr E) {E : String} (hr : r = .inr E) : n ≠ 0 ∧ es[n - 1]? = some E := by
  by_cases e : n = 0
  · have := h1 e; rw [hr] at this; cases this
  · obtain ⟨E', h3, h4⟩ := h2 e
    rw [hr] at h4; cases h4
    exact ⟨e, h3⟩
theorem w_e1 {e1 E : String} {n : Nat} (h0 : n ≠ 0) (h : [e1][n - 1]? = some E) : n = 1 ∧ E = e1 := by
  match n, h0, h with
  | 1, _, h => cases h; exact ⟨rfl, rfl⟩
  | n + 2, _, h => cases h
theorem w_e2 {e1 e2 E : String} {n : Nat} (h0 : n ≠ 0) (h : [e1, e2][n - 1]? = some E) : (n = 1 ∧ E = e1) ∨ (n = 2 ∧ E = e2) := by
  match n, h0, h with
  | 1, _, h => cases h; exact Or.inl ⟨rfl, rfl⟩
  | 2, _, h => cases h; exact Or.inr ⟨rfl, rfl⟩
  | n + 3, _, h => cases h
theorem w_e3 {e1 e2 e3 E : String} {n : Nat} (h0 : n ≠ 0) (h : [e1, e2, e3][n - 1]? = some E) : (n = 1 ∧ E = e1) ∨ (n = 2 ∧ E = e2) ∨ (n = 3 ∧ E = e3) := by
  match n, h0, h with
  | 1, _, h => cases h; exact Or.inl ⟨rfl, rfl⟩
  | 2, _, h => cases h; exact Or.inr (Or.inl ⟨rfl, rfl⟩)
  | 3, _, h => cases h; exact Or.inr (Or.inr ⟨rfl, rfl⟩)
  | n + 4, _, h => cases h
set_option maxRecDepth 20000 in
set_option maxHeartbeats 1000000 in
theorem lw_addJob {G : q_G} {s : s_T} {z : z_T} (hz : z_wf z) (hZ : c_Z z s) {a b e : Int32} : s_W G mL_addJob 9 2 12 (w_P (A_addJob z a b e) s) 0 (q_ent mL_addJob [.ref 0, .int a, .int b, .int e, .ref 234]) [] s := by
  show s_W G mL_addJob 9 2 12 _ 0 [some (.ref 0), some (.int a), some (.int b), some (.int e), some (.ref 234), none] [] s
  refine r_aload dL_addJob_0 rfl ?_
  refine n_const 0 dL_addJob_2 (by decide) ?_
  refine r_aload_n dL_addJob_3 rfl rfl ?_
  refine r_iload_n dL_addJob_4 rfl rfl ?_
  refine r_iload_n dL_addJob_5 rfl rfl ?_
  refine r_iload_n dL_addJob_6 rfl rfl ?_
  refine s_callV mX11_addJob [.int a, .int b, .int e] dL_addJob_7 okX11_addJob lL_7 npX11_addJob lysX11 rfl (by decide) (by decide) (by decide) (Nat.le_of_ble_eq_true rfl) (Nat.le_of_ble_eq_true rfl) rfl (c_addJob hz hZ) (fun v s1 hq => ?_) (fun E s1 hq => ?_)
  · obtain ⟨h1, h2, hZ1, hf⟩ := hq
    obtain ⟨a0, ev⟩ := w_il h1 h2 rfl
    cases ev
    refine r_i2l dL_addJob_10 rfl ?_
    refine s_last dL_addJob_11 (fun s2 hv hf2 => ?_)
    refine r_goto (tgt := 23) dL_addJob_12 (by decide) ?_
    refine n_const 0 dL_addJob_23 (by decide) ?_
    refine s_iret dL_addJob_24 rfl rfl ?_
    exact ⟨_, rfl, by rw [a0], by omega, fun _ => hv, c_Z_fr (zA_addJob hz) hZ1 (s_fr_w hf2 (by decide) (by decide)), fun k h3 h4 => (hf2 k (by omega)).trans (hf k (by omega))⟩
  · obtain ⟨h1, h2, hZ1, hf⟩ := hq
    obtain ⟨a0, ev⟩ := w_ir h1 h2 rfl
    rcases w_e2 a0 ev with ⟨ea, rfl⟩ | ⟨ea, rfl⟩
    · refine x_catch (z := 0) [] ⟨0, 12, 15, 13⟩ [⟨0, 12, 19, 15⟩] rfl (fun z9 hz9 => by cases hz9) (by decide) (by decide) lwc_13 lwe_13 (i := 5) (by decide) rfl (Or.inl ⟨dL_addJob_15, rfl⟩) ?_
      refine n_const 1 dL_addJob_17 (by decide) ?_
      refine s_iret dL_addJob_18 rfl rfl ?_
      exact ⟨_, rfl, by rw [ea], by omega, fun q => absurd q a0, hZ1, fun k h3 h4 => hf k (by omega)⟩
    · refine x_catch (z := 0) [⟨0, 12, 15, 13⟩] ⟨0, 12, 19, 15⟩ [] rfl (fun z9 hz9 => Or.inr (by rcases List.mem_singleton.mp hz9 with rfl <;> exact ⟨by decide, _, by first | exact lwc_13 | exact lwc_15 | exact lwc_21 | exact lwc_49, by decide +kernel⟩)) (by decide) (by decide) lwc_15 lwe_15 (i := 5) (by decide) rfl (Or.inl ⟨dL_addJob_19, rfl⟩) ?_
      refine n_const 2 dL_addJob_21 (by decide) ?_
      refine s_iret dL_addJob_22 rfl rfl ?_
      exact ⟨_, rfl, by rw [ea], by omega, fun q => absurd q a0, hZ1, fun k h3 h4 => hf k (by omega)⟩
set_option maxRecDepth 20000 in
set_option maxHeartbeats 1000000 in
theorem lw_addOperation {G : q_G} {s : s_T} {z : z_T} (hz : z_wf z) (hZ : c_Z z s) {a b e f : Int32} : s_W G mL_addOperation 9 3 18 (w_P (A_addOperation z a b e f) s) 0 (q_ent mL_addOperation [.ref 0, .int a, .int b, .int e, .int f, .ref 234]) [] s := by
  show s_W G mL_addOperation 9 3 18 _ 0 [some (.ref 0), some (.int a), some (.int b), some (.int e), some (.int f), some (.ref 234), none] [] s
  refine r_aload dL_addOperation_0 rfl ?_
  refine n_const 0 dL_addOperation_2 (by decide) ?_
  refine r_aload_n dL_addOperation_3 rfl rfl ?_
  refine r_iload_n dL_addOperation_4 rfl rfl ?_
  refine r_iload_n dL_addOperation_5 rfl rfl ?_
  refine r_iload_n dL_addOperation_6 rfl rfl ?_
  refine r_iload dL_addOperation_7 rfl ?_
  refine s_callV mX11_addOperation [.int a, .int b, .int e, .int f] dL_addOperation_9 okX11_addOperation lL_17 npX11_addOperation lysX11 rfl (by decide) (by decide) (by decide) (Nat.le_of_ble_eq_true rfl) (Nat.le_of_ble_eq_true rfl) rfl (c_addOperation hz hZ) (fun v s1 hq => ?_) (fun E s1 hq => ?_)
  · obtain ⟨h1, h2, hZ1, hf⟩ := hq
    obtain ⟨a0, ev⟩ := w_il h1 h2 rfl
    cases ev
    refine r_i2l dL_addOperation_12 rfl ?_
    refine s_last dL_addOperation_13 (fun s2 hv hf2 => ?_)
    refine r_goto (tgt := 29) dL_addOperation_14 (by decide) ?_
    refine n_const 0 dL_addOperation_29 (by decide) ?_
    refine s_iret dL_addOperation_30 rfl rfl ?_
    exact ⟨_, rfl, by rw [a0], by omega, fun _ => hv, c_Z_fr (zA_addOperation hz) hZ1 (s_fr_w hf2 (by decide) (by decide)), fun k h3 h4 => (hf2 k (by omega)).trans (hf k (by omega))⟩
  · obtain ⟨h1, h2, hZ1, hf⟩ := hq
    obtain ⟨a0, ev⟩ := w_ir h1 h2 rfl
    rcases w_e3 a0 ev with ⟨ea, rfl⟩ | ⟨ea, rfl⟩ | ⟨ea, rfl⟩
    · refine x_catch (z := 0) [] ⟨0, 14, 17, 21⟩ [⟨0, 14, 21, 13⟩, ⟨0, 14, 25, 15⟩] rfl (fun z9 hz9 => by cases hz9) (by decide) (by decide) lwc_21 lwe_21 (i := 6) (by decide) rfl (Or.inl ⟨dL_addOperation_17, rfl⟩) ?_
      refine n_const 1 dL_addOperation_19 (by decide) ?_
      refine s_iret dL_addOperation_20 rfl rfl ?_
      exact ⟨_, rfl, by rw [ea], by omega, fun q => absurd q a0, hZ1, fun k h3 h4 => hf k (by omega)⟩
    · refine x_catch (z := 0) [⟨0, 14, 17, 21⟩] ⟨0, 14, 21, 13⟩ [⟨0, 14, 25, 15⟩] rfl (fun z9 hz9 => Or.inr (by rcases List.mem_singleton.mp hz9 with rfl <;> exact ⟨by decide, _, by first | exact lwc_13 | exact lwc_15 | exact lwc_21 | exact lwc_49, by decide +kernel⟩)) (by decide) (by decide) lwc_13 lwe_13 (i := 6) (by decide) rfl (Or.inl ⟨dL_addOperation_21, rfl⟩) ?_
      refine n_const 2 dL_addOperation_23 (by decide) ?_
      refine s_iret dL_addOperation_24 rfl rfl ?_
      exact ⟨_, rfl, by rw [ea], by omega, fun q => absurd q a0, hZ1, fun k h3 h4 => hf k (by omega)⟩
    · refine x_catch (z := 0) [⟨0, 14, 17, 21⟩, ⟨0, 14, 21, 13⟩] ⟨0, 14, 25, 15⟩ [] rfl (fun z9 hz9 => Or.inr (by rcases (show z9 = _ ∨ z9 = _ by simpa using hz9) with rfl | rfl <;> exact ⟨by decide, _, by first | exact lwc_13 | exact lwc_15 | exact lwc_21 | exact lwc_49, by decide +kernel⟩)) (by decide) (by decide) lwc_15 lwe_15 (i := 6) (by decide) rfl (Or.inl ⟨dL_addOperation_25, rfl⟩) ?_
      refine n_const 3 dL_addOperation_27 (by decide) ?_
      refine s_iret dL_addOperation_28 rfl rfl ?_
      exact ⟨_, rfl, by rw [ea], by omega, fun q => absurd q a0, hZ1, fun k h3 h4 => hf k (by omega)⟩
set_option maxRecDepth 20000 in
set_option maxHeartbeats 1000000 in
theorem lw_setJob {G : q_G} {s : s_T} {z : z_T} (hz : z_wf z) (hZ : c_Z z s) {a b e : Int32} : s_W G mL_setJob 9 2 12 (w_P (A_setJob z a b e) s) 0 (q_ent mL_setJob [.ref 0, .int a, .int b, .int e, .ref 234]) [] s := by
  show s_W G mL_setJob 9 2 12 _ 0 [some (.ref 0), some (.int a), some (.int b), some (.int e), some (.ref 234), none] [] s
  refine r_aload dL_setJob_0 rfl ?_
  refine n_const 0 dL_setJob_2 (by decide) ?_
  refine r_aload_n dL_setJob_3 rfl rfl ?_
  refine r_iload_n dL_setJob_4 rfl rfl ?_
  refine r_iload_n dL_setJob_5 rfl rfl ?_
  refine r_iload_n dL_setJob_6 rfl rfl ?_
  refine s_callV mX11_setJob [.int a, .int b, .int e] dL_setJob_7 okX11_setJob lL_23 npX11_setJob lysX11 rfl (by decide) (by decide) (by decide) (Nat.le_of_ble_eq_true rfl) (Nat.le_of_ble_eq_true rfl) rfl (c_setJob hz hZ) (fun v s1 hq => ?_) (fun E s1 hq => ?_)
  · obtain ⟨h1, h2, hZ1, hf⟩ := hq
    obtain ⟨a0, ev⟩ := w_il h1 h2 rfl
    cases ev
    refine r_i2l dL_setJob_10 rfl ?_
    refine s_last dL_setJob_11 (fun s2 hv hf2 => ?_)
    refine r_goto (tgt := 23) dL_setJob_12 (by decide) ?_
    refine n_const 0 dL_setJob_23 (by decide) ?_
    refine s_iret dL_setJob_24 rfl rfl ?_
    exact ⟨_, rfl, by rw [a0], by omega, fun _ => hv, c_Z_fr (zA_setJob hz) hZ1 (s_fr_w hf2 (by decide) (by decide)), fun k h3 h4 => (hf2 k (by omega)).trans (hf k (by omega))⟩
  · obtain ⟨h1, h2, hZ1, hf⟩ := hq
    obtain ⟨a0, ev⟩ := w_ir h1 h2 rfl
    rcases w_e2 a0 ev with ⟨ea, rfl⟩ | ⟨ea, rfl⟩
    · refine x_catch (z := 0) [] ⟨0, 12, 15, 21⟩ [⟨0, 12, 19, 13⟩] rfl (fun z9 hz9 => by cases hz9) (by decide) (by decide) lwc_21 lwe_21 (i := 5) (by decide) rfl (Or.inl ⟨dL_setJob_15, rfl⟩) ?_
      refine n_const 1 dL_setJob_17 (by decide) ?_
      refine s_iret dL_setJob_18 rfl rfl ?_
      exact ⟨_, rfl, by rw [ea], by omega, fun q => absurd q a0, hZ1, fun k h3 h4 => hf k (by omega)⟩
    · refine x_catch (z := 0) [⟨0, 12, 15, 21⟩] ⟨0, 12, 19, 13⟩ [] rfl (fun z9 hz9 => Or.inr (by rcases List.mem_singleton.mp hz9 with rfl <;> exact ⟨by decide, _, by first | exact lwc_13 | exact lwc_15 | exact lwc_21 | exact lwc_49, by decide +kernel⟩)) (by decide) (by decide) lwc_13 lwe_13 (i := 5) (by decide) rfl (Or.inl ⟨dL_setJob_19, rfl⟩) ?_
      refine n_const 2 dL_setJob_21 (by decide) ?_
      refine s_iret dL_setJob_22 rfl rfl ?_
      exact ⟨_, rfl, by rw [ea], by omega, fun q => absurd q a0, hZ1, fun k h3 h4 => hf k (by omega)⟩
set_option maxRecDepth 20000 in
set_option maxHeartbeats 1000000 in
theorem lw_setDuration {G : q_G} {s : s_T} {z : z_T} (hz : z_wf z) (hZ : c_Z z s) {a b : Int32} : s_W G mL_setDuration 9 2 12 (w_P (A_setDuration z a b) s) 0 (q_ent mL_setDuration [.ref 0, .int a, .int b, .ref 234]) [] s := by
  show s_W G mL_setDuration 9 2 12 _ 0 [some (.ref 0), some (.int a), some (.int b), some (.ref 234), none] [] s
  refine r_aload_n dL_setDuration_0 rfl rfl ?_
  refine n_const 0 dL_setDuration_1 (by decide) ?_
  refine r_aload_n dL_setDuration_2 rfl rfl ?_
  refine r_iload_n dL_setDuration_3 rfl rfl ?_
  refine r_iload_n dL_setDuration_4 rfl rfl ?_
  refine s_callV mX11_setDuration [.int a, .int b] dL_setDuration_5 okX11_setDuration lL_26 npX11_setDuration lysX11 rfl (by decide) (by decide) (by decide) (Nat.le_of_ble_eq_true rfl) (Nat.le_of_ble_eq_true rfl) rfl (c_setDuration hz hZ) (fun v s1 hq => ?_) (fun E s1 hq => ?_)
  · obtain ⟨h1, h2, hZ1, hf⟩ := hq
    obtain ⟨a0, ev⟩ := w_il h1 h2 rfl
    cases ev
    refine r_i2l dL_setDuration_8 rfl ?_
    refine s_last dL_setDuration_9 (fun s2 hv hf2 => ?_)
    refine r_goto (tgt := 21) dL_setDuration_10 (by decide) ?_
    refine n_const 0 dL_setDuration_21 (by decide) ?_
    refine s_iret dL_setDuration_22 rfl rfl ?_
    exact ⟨_, rfl, by rw [a0], by omega, fun _ => hv, c_Z_fr (zA_setDuration hz) hZ1 (s_fr_w hf2 (by decide) (by decide)), fun k h3 h4 => (hf2 k (by omega)).trans (hf k (by omega))⟩
  · obtain ⟨h1, h2, hZ1, hf⟩ := hq
    obtain ⟨a0, ev⟩ := w_ir h1 h2 rfl
    rcases w_e2 a0 ev with ⟨ea, rfl⟩ | ⟨ea, rfl⟩
    · refine x_catch (z := 0) [] ⟨0, 10, 13, 21⟩ [⟨0, 10, 17, 13⟩] rfl (fun z9 hz9 => by cases hz9) (by decide) (by decide) lwc_21 lwe_21 (i := 4) (by decide) rfl (Or.inl ⟨dL_setDuration_13, rfl⟩) ?_
      refine n_const 1 dL_setDuration_15 (by decide) ?_
      refine s_iret dL_setDuration_16 rfl rfl ?_
      exact ⟨_, rfl, by rw [ea], by omega, fun q => absurd q a0, hZ1, fun k h3 h4 => hf k (by omega)⟩
    · refine x_catch (z := 0) [⟨0, 10, 13, 21⟩] ⟨0, 10, 17, 13⟩ [] rfl (fun z9 hz9 => Or.inr (by rcases List.mem_singleton.mp hz9 with rfl <;> exact ⟨by decide, _, by first | exact lwc_13 | exact lwc_15 | exact lwc_21 | exact lwc_49, by decide +kernel⟩)) (by decide) (by decide) lwc_13 lwe_13 (i := 4) (by decide) rfl (Or.inl ⟨dL_setDuration_17, rfl⟩) ?_
      refine n_const 2 dL_setDuration_19 (by decide) ?_
      refine s_iret dL_setDuration_20 rfl rfl ?_
      exact ⟨_, rfl, by rw [ea], by omega, fun q => absurd q a0, hZ1, fun k h3 h4 => hf k (by omega)⟩
set_option maxRecDepth 20000 in
set_option maxHeartbeats 1000000 in
theorem lw_setSetup {G : q_G} {s : s_T} {z : z_T} (hz : z_wf z) (hZ : c_Z z s) {a b e : Int32} : s_W G mL_setSetup 9 2 12 (w_P (A_setSetup z a b e) s) 0 (q_ent mL_setSetup [.ref 0, .int a, .int b, .int e, .ref 234]) [] s := by
  show s_W G mL_setSetup 9 2 12 _ 0 [some (.ref 0), some (.int a), some (.int b), some (.int e), some (.ref 234), none] [] s
  refine r_aload dL_setSetup_0 rfl ?_
  refine n_const 0 dL_setSetup_2 (by decide) ?_
  refine r_aload_n dL_setSetup_3 rfl rfl ?_
  refine r_iload_n dL_setSetup_4 rfl rfl ?_
  refine r_iload_n dL_setSetup_5 rfl rfl ?_
  refine r_iload_n dL_setSetup_6 rfl rfl ?_
  refine s_callV mX11_setSetup [.int a, .int b, .int e] dL_setSetup_7 okX11_setSetup lL_30 npX11_setSetup lysX11 rfl (by decide) (by decide) (by decide) (Nat.le_of_ble_eq_true rfl) (Nat.le_of_ble_eq_true rfl) rfl (c_setSetup hz hZ) (fun v s1 hq => ?_) (fun E s1 hq => ?_)
  · obtain ⟨h1, h2, hZ1, hf⟩ := hq
    obtain ⟨a0, ev⟩ := w_il h1 h2 rfl
    cases ev
    refine r_i2l dL_setSetup_10 rfl ?_
    refine s_last dL_setSetup_11 (fun s2 hv hf2 => ?_)
    refine r_goto (tgt := 23) dL_setSetup_12 (by decide) ?_
    refine n_const 0 dL_setSetup_23 (by decide) ?_
    refine s_iret dL_setSetup_24 rfl rfl ?_
    exact ⟨_, rfl, by rw [a0], by omega, fun _ => hv, c_Z_fr (zA_setSetup hz) hZ1 (s_fr_w hf2 (by decide) (by decide)), fun k h3 h4 => (hf2 k (by omega)).trans (hf k (by omega))⟩
  · obtain ⟨h1, h2, hZ1, hf⟩ := hq
    obtain ⟨a0, ev⟩ := w_ir h1 h2 rfl
    rcases w_e2 a0 ev with ⟨ea, rfl⟩ | ⟨ea, rfl⟩
    · refine x_catch (z := 0) [] ⟨0, 12, 15, 21⟩ [⟨0, 12, 19, 13⟩] rfl (fun z9 hz9 => by cases hz9) (by decide) (by decide) lwc_21 lwe_21 (i := 5) (by decide) rfl (Or.inl ⟨dL_setSetup_15, rfl⟩) ?_
      refine n_const 1 dL_setSetup_17 (by decide) ?_
      refine s_iret dL_setSetup_18 rfl rfl ?_
      exact ⟨_, rfl, by rw [ea], by omega, fun q => absurd q a0, hZ1, fun k h3 h4 => hf k (by omega)⟩
    · refine x_catch (z := 0) [⟨0, 12, 15, 21⟩] ⟨0, 12, 19, 13⟩ [] rfl (fun z9 hz9 => Or.inr (by rcases List.mem_singleton.mp hz9 with rfl <;> exact ⟨by decide, _, by first | exact lwc_13 | exact lwc_15 | exact lwc_21 | exact lwc_49, by decide +kernel⟩)) (by decide) (by decide) lwc_13 lwe_13 (i := 5) (by decide) rfl (Or.inl ⟨dL_setSetup_19, rfl⟩) ?_
      refine n_const 2 dL_setSetup_21 (by decide) ?_
      refine s_iret dL_setSetup_22 rfl rfl ?_
      exact ⟨_, rfl, by rw [ea], by omega, fun q => absurd q a0, hZ1, fun k h3 h4 => hf k (by omega)⟩
set_option maxRecDepth 20000 in
set_option maxHeartbeats 1000000 in
theorem lw_addBreakdown {G : q_G} {s : s_T} {z : z_T} (hz : z_wf z) (hZ : c_Z z s) {a b e : Int32} : s_W G mL_addBreakdown 9 2 12 (w_P (A_addBreakdown z a b e) s) 0 (q_ent mL_addBreakdown [.ref 0, .int a, .int b, .int e, .ref 234]) [] s := by
  show s_W G mL_addBreakdown 9 2 12 _ 0 [some (.ref 0), some (.int a), some (.int b), some (.int e), some (.ref 234), none] [] s
  refine r_aload dL_addBreakdown_0 rfl ?_
  refine n_const 0 dL_addBreakdown_2 (by decide) ?_
  refine r_aload_n dL_addBreakdown_3 rfl rfl ?_
  refine r_iload_n dL_addBreakdown_4 rfl rfl ?_
  refine r_iload_n dL_addBreakdown_5 rfl rfl ?_
  refine r_iload_n dL_addBreakdown_6 rfl rfl ?_
  refine s_callV mX11_addBreakdown [.int a, .int b, .int e] dL_addBreakdown_7 okX11_addBreakdown lL_33 npX11_addBreakdown lysX11 rfl (by decide) (by decide) (by decide) (Nat.le_of_ble_eq_true rfl) (Nat.le_of_ble_eq_true rfl) rfl (c_addBreakdown hz hZ) (fun v s1 hq => ?_) (fun E s1 hq => ?_)
  · obtain ⟨h1, h2, hZ1, hf⟩ := hq
    obtain ⟨a0, ev⟩ := w_il h1 h2 rfl
    cases ev
    refine r_i2l dL_addBreakdown_10 rfl ?_
    refine s_last dL_addBreakdown_11 (fun s2 hv hf2 => ?_)
    refine r_goto (tgt := 27) dL_addBreakdown_12 (by decide) ?_
    refine n_const 0 dL_addBreakdown_27 (by decide) ?_
    refine s_iret dL_addBreakdown_28 rfl rfl ?_
    exact ⟨_, rfl, by rw [a0], by omega, fun _ => hv, c_Z_fr (zA_addBreakdown hz) hZ1 (s_fr_w hf2 (by decide) (by decide)), fun k h3 h4 => (hf2 k (by omega)).trans (hf k (by omega))⟩
  · obtain ⟨h1, h2, hZ1, hf⟩ := hq
    obtain ⟨a0, ev⟩ := w_ir h1 h2 rfl
    rcases w_e3 a0 ev with ⟨ea, rfl⟩ | ⟨ea, rfl⟩ | ⟨ea, rfl⟩
    · refine x_catch (z := 0) [] ⟨0, 12, 15, 21⟩ [⟨0, 12, 19, 13⟩, ⟨0, 12, 23, 15⟩] rfl (fun z9 hz9 => by cases hz9) (by decide) (by decide) lwc_21 lwe_21 (i := 5) (by decide) rfl (Or.inl ⟨dL_addBreakdown_15, rfl⟩) ?_
      refine n_const 1 dL_addBreakdown_17 (by decide) ?_
      refine s_iret dL_addBreakdown_18 rfl rfl ?_
      exact ⟨_, rfl, by rw [ea], by omega, fun q => absurd q a0, hZ1, fun k h3 h4 => hf k (by omega)⟩
    · refine x_catch (z := 0) [⟨0, 12, 15, 21⟩] ⟨0, 12, 19, 13⟩ [⟨0, 12, 23, 15⟩] rfl (fun z9 hz9 => Or.inr (by rcases List.mem_singleton.mp hz9 with rfl <;> exact ⟨by decide, _, by first | exact lwc_13 | exact lwc_15 | exact lwc_21 | exact lwc_49, by decide +kernel⟩)) (by decide) (by decide) lwc_13 lwe_13 (i := 5) (by decide) rfl (Or.inl ⟨dL_addBreakdown_19, rfl⟩) ?_
      refine n_const 2 dL_addBreakdown_21 (by decide) ?_
      refine s_iret dL_addBreakdown_22 rfl rfl ?_
      exact ⟨_, rfl, by rw [ea], by omega, fun q => absurd q a0, hZ1, fun k h3 h4 => hf k (by omega)⟩
    · refine x_catch (z := 0) [⟨0, 12, 15, 21⟩, ⟨0, 12, 19, 13⟩] ⟨0, 12, 23, 15⟩ [] rfl (fun z9 hz9 => Or.inr (by rcases (show z9 = _ ∨ z9 = _ by simpa using hz9) with rfl | rfl <;> exact ⟨by decide, _, by first | exact lwc_13 | exact lwc_15 | exact lwc_21 | exact lwc_49, by decide +kernel⟩)) (by decide) (by decide) lwc_15 lwe_15 (i := 5) (by decide) rfl (Or.inl ⟨dL_addBreakdown_23, rfl⟩) ?_
      refine n_const 3 dL_addBreakdown_25 (by decide) ?_
      refine s_iret dL_addBreakdown_26 rfl rfl ?_
      exact ⟨_, rfl, by rw [ea], by omega, fun q => absurd q a0, hZ1, fun k h3 h4 => hf k (by omega)⟩
set_option maxRecDepth 20000 in
set_option maxHeartbeats 1000000 in
theorem lw_clearBreakdowns {G : q_G} {s : s_T} {z : z_T} (hz : z_wf z) (hZ : c_Z z s) {a : Int32} : s_W G mL_clearBreakdowns 9 2 12 (w_P (A_clearBreakdowns z a) s) 0 (q_ent mL_clearBreakdowns [.ref 0, .int a, .ref 234]) [] s := by
  show s_W G mL_clearBreakdowns 9 2 12 _ 0 [some (.ref 0), some (.int a), some (.ref 234), none] [] s
  refine r_aload_n dL_clearBreakdowns_0 rfl rfl ?_
  refine n_const 0 dL_clearBreakdowns_1 (by decide) ?_
  refine r_aload_n dL_clearBreakdowns_2 rfl rfl ?_
  refine r_iload_n dL_clearBreakdowns_3 rfl rfl ?_
  refine s_callV mX11_clearBreakdowns [.int a] dL_clearBreakdowns_4 okX11_clearBreakdowns lL_36 npX11_clearBreakdowns lysX11 rfl (by decide) (by decide) (by decide) (Nat.le_of_ble_eq_true rfl) (Nat.le_of_ble_eq_true rfl) rfl (c_clearBreakdowns hz hZ) (fun v s1 hq => ?_) (fun E s1 hq => ?_)
  · obtain ⟨h1, h2, hZ1, hf⟩ := hq
    obtain ⟨a0, ev⟩ := w_il h1 h2 rfl
    cases ev
    refine r_i2l dL_clearBreakdowns_7 rfl ?_
    refine s_last dL_clearBreakdowns_8 (fun s2 hv hf2 => ?_)
    refine r_goto (tgt := 15) dL_clearBreakdowns_9 (by decide) ?_
    refine n_const 0 dL_clearBreakdowns_15 (by decide) ?_
    refine s_iret dL_clearBreakdowns_16 rfl rfl ?_
    exact ⟨_, rfl, by rw [a0], by omega, fun _ => hv, c_Z_fr (zA_clearBreakdowns hz) hZ1 (s_fr_w hf2 (by decide) (by decide)), fun k h3 h4 => (hf2 k (by omega)).trans (hf k (by omega))⟩
  · obtain ⟨h1, h2, hZ1, hf⟩ := hq
    obtain ⟨a0, ev⟩ := w_ir h1 h2 rfl
    rcases w_e1 a0 ev with ⟨ea, rfl⟩
    refine x_catch (z := 3) [] ⟨0, 9, 12, 21⟩ [] rfl (fun z9 hz9 => by cases hz9) (by decide) (by decide) lwc_21 lwe_21 (i := 3) (by decide) rfl (Or.inr ⟨dL_clearBreakdowns_12, rfl, rfl⟩) ?_
    refine n_const 1 dL_clearBreakdowns_13 (by decide) ?_
    refine s_iret dL_clearBreakdowns_14 rfl rfl ?_
    exact ⟨_, rfl, by rw [ea], by omega, fun q => absurd q a0, hZ1, fun k h3 h4 => hf k (by omega)⟩
set_option maxRecDepth 20000 in
set_option maxHeartbeats 1000000 in
theorem lw_count {G : q_G} {s : s_T} {z : z_T} (hz : z_wf z) (hZ : c_Z z s) {a : Int32} : s_W G mL_count 9 2 12 (w_P (A_count z a) s) 0 (q_ent mL_count [.ref 0, .int a, .ref 234]) [] s := by
  show s_W G mL_count 9 2 12 _ 0 [some (.ref 0), some (.int a), some (.ref 234), none] [] s
  refine r_aload_n dL_count_0 rfl rfl ?_
  refine n_const 0 dL_count_1 (by decide) ?_
  refine r_aload_n dL_count_2 rfl rfl ?_
  refine r_iload_n dL_count_3 rfl rfl ?_
  refine s_callV mX11_count [.int a] dL_count_4 okX11_count lL_40 npX11_count lysX11 rfl (by decide) (by decide) (by decide) (Nat.le_of_ble_eq_true rfl) (Nat.le_of_ble_eq_true rfl) rfl (c_count hz hZ) (fun v s1 hq => ?_) (fun E s1 hq => ?_)
  · obtain ⟨h1, h2, hZ1, hf⟩ := hq
    obtain ⟨a0, ev⟩ := w_il h1 h2 rfl
    cases ev
    refine r_i2l dL_count_7 rfl ?_
    refine s_last dL_count_8 (fun s2 hv hf2 => ?_)
    refine r_goto (tgt := 15) dL_count_9 (by decide) ?_
    refine n_const 0 dL_count_15 (by decide) ?_
    refine s_iret dL_count_16 rfl rfl ?_
    exact ⟨_, rfl, by rw [a0], by omega, fun _ => hv, c_Z_fr (zA_count hz) hZ1 (s_fr_w hf2 (by decide) (by decide)), fun k h3 h4 => (hf2 k (by omega)).trans (hf k (by omega))⟩
  · obtain ⟨h1, h2, hZ1, hf⟩ := hq
    obtain ⟨a0, ev⟩ := w_ir h1 h2 rfl
    rcases w_e1 a0 ev with ⟨ea, rfl⟩
    refine x_catch (z := 3) [] ⟨0, 9, 12, 13⟩ [] rfl (fun z9 hz9 => by cases hz9) (by decide) (by decide) lwc_13 lwe_13 (i := 3) (by decide) rfl (Or.inr ⟨dL_count_12, rfl, rfl⟩) ?_
    refine n_const 1 dL_count_13 (by decide) ?_
    refine s_iret dL_count_14 rfl rfl ?_
    exact ⟨_, rfl, by rw [ea], by omega, fun q => absurd q a0, hZ1, fun k h3 h4 => hf k (by omega)⟩
set_option maxRecDepth 20000 in
set_option maxHeartbeats 1000000 in
theorem lw_property {G : q_G} {s : s_T} {z : z_T} (hz : z_wf z) (hZ : c_Z z s) {a b : Int32} : s_W G mL_property 9 2 12 (w_P (A_property z a b) s) 0 (q_ent mL_property [.ref 0, .int a, .int b, .ref 234]) [] s := by
  show s_W G mL_property 9 2 12 _ 0 [some (.ref 0), some (.int a), some (.int b), some (.ref 234), none] [] s
  refine r_aload_n dL_property_0 rfl rfl ?_
  refine n_const 0 dL_property_1 (by decide) ?_
  refine r_aload_n dL_property_2 rfl rfl ?_
  refine r_iload_n dL_property_3 rfl rfl ?_
  refine r_iload_n dL_property_4 rfl rfl ?_
  refine s_callV mX11_property [.int a, .int b] dL_property_5 okX11_property lL_43 npX11_property lysX11 rfl (by decide) (by decide) (by decide) (Nat.le_of_ble_eq_true rfl) (Nat.le_of_ble_eq_true rfl) rfl (c_property hz hZ) (fun v s1 hq => ?_) (fun E s1 hq => ?_)
  · obtain ⟨h1, h2, hZ1, hf⟩ := hq
    obtain ⟨a0, ev⟩ := w_il h1 h2 rfl
    cases ev
    refine r_i2l dL_property_8 rfl ?_
    refine s_last dL_property_9 (fun s2 hv hf2 => ?_)
    refine r_goto (tgt := 21) dL_property_10 (by decide) ?_
    refine n_const 0 dL_property_21 (by decide) ?_
    refine s_iret dL_property_22 rfl rfl ?_
    exact ⟨_, rfl, by rw [a0], by omega, fun _ => hv, c_Z_fr (zA_property hz) hZ1 (s_fr_w hf2 (by decide) (by decide)), fun k h3 h4 => (hf2 k (by omega)).trans (hf k (by omega))⟩
  · obtain ⟨h1, h2, hZ1, hf⟩ := hq
    obtain ⟨a0, ev⟩ := w_ir h1 h2 rfl
    rcases w_e2 a0 ev with ⟨ea, rfl⟩ | ⟨ea, rfl⟩
    · refine x_catch (z := 0) [] ⟨0, 10, 13, 21⟩ [⟨0, 10, 17, 13⟩] rfl (fun z9 hz9 => by cases hz9) (by decide) (by decide) lwc_21 lwe_21 (i := 4) (by decide) rfl (Or.inl ⟨dL_property_13, rfl⟩) ?_
      refine n_const 1 dL_property_15 (by decide) ?_
      refine s_iret dL_property_16 rfl rfl ?_
      exact ⟨_, rfl, by rw [ea], by omega, fun q => absurd q a0, hZ1, fun k h3 h4 => hf k (by omega)⟩
    · refine x_catch (z := 0) [⟨0, 10, 13, 21⟩] ⟨0, 10, 17, 13⟩ [] rfl (fun z9 hz9 => Or.inr (by rcases List.mem_singleton.mp hz9 with rfl <;> exact ⟨by decide, _, by first | exact lwc_13 | exact lwc_15 | exact lwc_21 | exact lwc_49, by decide +kernel⟩)) (by decide) (by decide) lwc_13 lwe_13 (i := 4) (by decide) rfl (Or.inl ⟨dL_property_17, rfl⟩) ?_
      refine n_const 2 dL_property_19 (by decide) ?_
      refine s_iret dL_property_20 rfl rfl ?_
      exact ⟨_, rfl, by rw [ea], by omega, fun q => absurd q a0, hZ1, fun k h3 h4 => hf k (by omega)⟩
set_option maxRecDepth 20000 in
set_option maxHeartbeats 1000000 in
theorem lw_order {G : q_G} {s : s_T} {z : z_T} (hz : z_wf z) (hZ : c_Z z s) {a b : Int32} : s_W G mL_order 9 2 12 (w_P (A_order z a b) s) 0 (q_ent mL_order [.ref 0, .int a, .int b, .ref 234]) [] s := by
  show s_W G mL_order 9 2 12 _ 0 [some (.ref 0), some (.int a), some (.int b), some (.ref 234), none] [] s
  refine r_aload_n dL_order_0 rfl rfl ?_
  refine n_const 0 dL_order_1 (by decide) ?_
  refine r_aload_n dL_order_2 rfl rfl ?_
  refine r_iload_n dL_order_3 rfl rfl ?_
  refine r_iload_n dL_order_4 rfl rfl ?_
  refine s_callV mX11_order [.int a, .int b] dL_order_5 okX11_order lL_46 npX11_order lysX11 rfl (by decide) (by decide) (by decide) (Nat.le_of_ble_eq_true rfl) (Nat.le_of_ble_eq_true rfl) rfl (c_order hz hZ) (fun v s1 hq => ?_) (fun E s1 hq => ?_)
  · obtain ⟨h1, h2, hZ1, hf⟩ := hq
    obtain ⟨a0, ev⟩ := w_il h1 h2 rfl
    cases ev
    refine r_i2l dL_order_8 rfl ?_
    refine s_last dL_order_9 (fun s2 hv hf2 => ?_)
    refine r_goto (tgt := 21) dL_order_10 (by decide) ?_
    refine n_const 0 dL_order_21 (by decide) ?_
    refine s_iret dL_order_22 rfl rfl ?_
    exact ⟨_, rfl, by rw [a0], by omega, fun _ => hv, c_Z_fr (zA_order hz) hZ1 (s_fr_w hf2 (by decide) (by decide)), fun k h3 h4 => (hf2 k (by omega)).trans (hf k (by omega))⟩
  · obtain ⟨h1, h2, hZ1, hf⟩ := hq
    obtain ⟨a0, ev⟩ := w_ir h1 h2 rfl
    rcases w_e2 a0 ev with ⟨ea, rfl⟩ | ⟨ea, rfl⟩
    · refine x_catch (z := 0) [] ⟨0, 10, 13, 21⟩ [⟨0, 10, 17, 49⟩] rfl (fun z9 hz9 => by cases hz9) (by decide) (by decide) lwc_21 lwe_21 (i := 4) (by decide) rfl (Or.inl ⟨dL_order_13, rfl⟩) ?_
      refine n_const 1 dL_order_15 (by decide) ?_
      refine s_iret dL_order_16 rfl rfl ?_
      exact ⟨_, rfl, by rw [ea], by omega, fun q => absurd q a0, hZ1, fun k h3 h4 => hf k (by omega)⟩
    · refine x_catch (z := 0) [⟨0, 10, 13, 21⟩] ⟨0, 10, 17, 49⟩ [] rfl (fun z9 hz9 => Or.inr (by rcases List.mem_singleton.mp hz9 with rfl <;> exact ⟨by decide, _, by first | exact lwc_13 | exact lwc_15 | exact lwc_21 | exact lwc_49, by decide +kernel⟩)) (by decide) (by decide) lwc_49 lwe_49 (i := 4) (by decide) rfl (Or.inl ⟨dL_order_17, rfl⟩) ?_
      refine n_const 2 dL_order_19 (by decide) ?_
      refine s_iret dL_order_20 rfl rfl ?_
      exact ⟨_, rfl, by rw [ea], by omega, fun q => absurd q a0, hZ1, fun k h3 h4 => hf k (by omega)⟩
set_option maxRecDepth 20000 in
set_option maxHeartbeats 1000000 in
theorem lw_time {G : q_G} {s : s_T} {z : z_T} (hz : z_wf z) (hZ : c_Z z s) {a b : Int32} : s_W G mL_time 9 2 12 (w_P (A_time z a b) s) 0 (q_ent mL_time [.ref 0, .int a, .int b, .ref 234]) [] s := by
  show s_W G mL_time 9 2 12 _ 0 [some (.ref 0), some (.int a), some (.int b), some (.ref 234), none] [] s
  refine r_aload_n dL_time_0 rfl rfl ?_
  refine n_const 0 dL_time_1 (by decide) ?_
  refine r_aload_n dL_time_2 rfl rfl ?_
  refine r_iload_n dL_time_3 rfl rfl ?_
  refine r_iload_n dL_time_4 rfl rfl ?_
  refine s_callV mX11_time [.int a, .int b] dL_time_5 okX11_time lL_51 npX11_time lysX11 rfl (by decide) (by decide) (by decide) (Nat.le_of_ble_eq_true rfl) (Nat.le_of_ble_eq_true rfl) rfl (c_time hz hZ) (fun v s1 hq => ?_) (fun E s1 hq => ?_)
  · obtain ⟨h1, h2, hZ1, hf⟩ := hq
    obtain ⟨a0, ev⟩ := w_il h1 h2 rfl
    cases ev
    refine r_i2l dL_time_8 rfl ?_
    refine s_last dL_time_9 (fun s2 hv hf2 => ?_)
    refine r_goto (tgt := 21) dL_time_10 (by decide) ?_
    refine n_const 0 dL_time_21 (by decide) ?_
    refine s_iret dL_time_22 rfl rfl ?_
    exact ⟨_, rfl, by rw [a0], by omega, fun _ => hv, c_Z_fr (zA_time hz) hZ1 (s_fr_w hf2 (by decide) (by decide)), fun k h3 h4 => (hf2 k (by omega)).trans (hf k (by omega))⟩
  · obtain ⟨h1, h2, hZ1, hf⟩ := hq
    obtain ⟨a0, ev⟩ := w_ir h1 h2 rfl
    rcases w_e2 a0 ev with ⟨ea, rfl⟩ | ⟨ea, rfl⟩
    · refine x_catch (z := 0) [] ⟨0, 10, 13, 21⟩ [⟨0, 10, 17, 13⟩] rfl (fun z9 hz9 => by cases hz9) (by decide) (by decide) lwc_21 lwe_21 (i := 4) (by decide) rfl (Or.inl ⟨dL_time_13, rfl⟩) ?_
      refine n_const 1 dL_time_15 (by decide) ?_
      refine s_iret dL_time_16 rfl rfl ?_
      exact ⟨_, rfl, by rw [ea], by omega, fun q => absurd q a0, hZ1, fun k h3 h4 => hf k (by omega)⟩
    · refine x_catch (z := 0) [⟨0, 10, 13, 21⟩] ⟨0, 10, 17, 13⟩ [] rfl (fun z9 hz9 => Or.inr (by rcases List.mem_singleton.mp hz9 with rfl <;> exact ⟨by decide, _, by first | exact lwc_13 | exact lwc_15 | exact lwc_21 | exact lwc_49, by decide +kernel⟩)) (by decide) (by decide) lwc_13 lwe_13 (i := 4) (by decide) rfl (Or.inl ⟨dL_time_17, rfl⟩) ?_
      refine n_const 2 dL_time_19 (by decide) ?_
      refine s_iret dL_time_20 rfl rfl ?_
      exact ⟨_, rfl, by rw [ea], by omega, fun q => absurd q a0, hZ1, fun k h3 h4 => hf k (by omega)⟩
set_option maxRecDepth 20000 in
set_option maxHeartbeats 1000000 in
theorem lw_slack {G : q_G} {s : s_T} {z : z_T} (hz : z_wf z) (hZ : c_Z z s) {a : Int32} : s_W G mL_slack 9 2 12 (w_P (A_slack z a) s) 0 (q_ent mL_slack [.ref 0, .int a, .ref 234]) [] s := by
  show s_W G mL_slack 9 2 12 _ 0 [some (.ref 0), some (.int a), some (.ref 234), none] [] s
  refine r_aload_n dL_slack_0 rfl rfl ?_
  refine n_const 0 dL_slack_1 (by decide) ?_
  refine r_aload_n dL_slack_2 rfl rfl ?_
  refine r_iload_n dL_slack_3 rfl rfl ?_
  refine s_callV mX11_slack [.int a] dL_slack_4 okX11_slack lL_54 npX11_slack lysX11 rfl (by decide) (by decide) (by decide) (Nat.le_of_ble_eq_true rfl) (Nat.le_of_ble_eq_true rfl) rfl (c_slack hz hZ) (fun v s1 hq => ?_) (fun E s1 hq => ?_)
  · obtain ⟨h1, h2, hZ1, hf⟩ := hq
    obtain ⟨a0, ev⟩ := w_il h1 h2 rfl
    cases ev
    refine r_i2l dL_slack_7 rfl ?_
    refine s_last dL_slack_8 (fun s2 hv hf2 => ?_)
    refine r_goto (tgt := 15) dL_slack_9 (by decide) ?_
    refine n_const 0 dL_slack_15 (by decide) ?_
    refine s_iret dL_slack_16 rfl rfl ?_
    exact ⟨_, rfl, by rw [a0], by omega, fun _ => hv, c_Z_fr (zA_slack hz) hZ1 (s_fr_w hf2 (by decide) (by decide)), fun k h3 h4 => (hf2 k (by omega)).trans (hf k (by omega))⟩
  · obtain ⟨h1, h2, hZ1, hf⟩ := hq
    obtain ⟨a0, ev⟩ := w_ir h1 h2 rfl
    rcases w_e1 a0 ev with ⟨ea, rfl⟩
    refine x_catch (z := 3) [] ⟨0, 9, 12, 21⟩ [] rfl (fun z9 hz9 => by cases hz9) (by decide) (by decide) lwc_21 lwe_21 (i := 3) (by decide) rfl (Or.inr ⟨dL_slack_12, rfl, rfl⟩) ?_
    refine n_const 1 dL_slack_13 (by decide) ?_
    refine s_iret dL_slack_14 rfl rfl ?_
    exact ⟨_, rfl, by rw [ea], by omega, fun q => absurd q a0, hZ1, fun k h3 h4 => hf k (by omega)⟩
set_option maxRecDepth 20000 in
set_option maxHeartbeats 1000000 in
theorem lw_completion {G : q_G} {s : s_T} {z : z_T} (hz : z_wf z) (hZ : c_Z z s) {a : Int32} : s_W G mL_completion 9 2 12 (w_P (A_completion z a) s) 0 (q_ent mL_completion [.ref 0, .int a, .ref 234]) [] s := by
  show s_W G mL_completion 9 2 12 _ 0 [some (.ref 0), some (.int a), some (.ref 234), none] [] s
  refine r_aload_n dL_completion_0 rfl rfl ?_
  refine n_const 0 dL_completion_1 (by decide) ?_
  refine r_aload_n dL_completion_2 rfl rfl ?_
  refine r_iload_n dL_completion_3 rfl rfl ?_
  refine s_callV mX11_completion [.int a] dL_completion_4 okX11_completion lL_57 npX11_completion lysX11 rfl (by decide) (by decide) (by decide) (Nat.le_of_ble_eq_true rfl) (Nat.le_of_ble_eq_true rfl) rfl (c_completion hz hZ) (fun v s1 hq => ?_) (fun E s1 hq => ?_)
  · obtain ⟨h1, h2, hZ1, hf⟩ := hq
    obtain ⟨a0, ev⟩ := w_il h1 h2 rfl
    cases ev
    refine r_i2l dL_completion_7 rfl ?_
    refine s_last dL_completion_8 (fun s2 hv hf2 => ?_)
    refine r_goto (tgt := 15) dL_completion_9 (by decide) ?_
    refine n_const 0 dL_completion_15 (by decide) ?_
    refine s_iret dL_completion_16 rfl rfl ?_
    exact ⟨_, rfl, by rw [a0], by omega, fun _ => hv, c_Z_fr (zA_completion hz) hZ1 (s_fr_w hf2 (by decide) (by decide)), fun k h3 h4 => (hf2 k (by omega)).trans (hf k (by omega))⟩
  · obtain ⟨h1, h2, hZ1, hf⟩ := hq
    obtain ⟨a0, ev⟩ := w_ir h1 h2 rfl
    rcases w_e1 a0 ev with ⟨ea, rfl⟩
    refine x_catch (z := 3) [] ⟨0, 9, 12, 21⟩ [] rfl (fun z9 hz9 => by cases hz9) (by decide) (by decide) lwc_21 lwe_21 (i := 3) (by decide) rfl (Or.inr ⟨dL_completion_12, rfl, rfl⟩) ?_
    refine n_const 1 dL_completion_13 (by decide) ?_
    refine s_iret dL_completion_14 rfl rfl ?_
    exact ⟨_, rfl, by rw [ea], by omega, fun q => absurd q a0, hZ1, fun k h3 h4 => hf k (by omega)⟩
set_option maxRecDepth 20000 in
set_option maxHeartbeats 1000000 in
theorem lw_objective {G : q_G} {s : s_T} {z : z_T} (hz : z_wf z) (hZ : c_Z z s) {a : Int32} : s_W G mL_objective 9 2 12 (w_P (A_objective z a) s) 0 (q_ent mL_objective [.ref 0, .int a, .ref 234]) [] s := by
  show s_W G mL_objective 9 2 12 _ 0 [some (.ref 0), some (.int a), some (.ref 234), none] [] s
  refine r_aload_n dL_objective_0 rfl rfl ?_
  refine n_const 0 dL_objective_1 (by decide) ?_
  refine r_aload_n dL_objective_2 rfl rfl ?_
  refine r_iload_n dL_objective_3 rfl rfl ?_
  refine s_callV mX11_objective [.int a] dL_objective_4 okX11_objective lL_60 npX11_objective lysX11 rfl (by decide) (by decide) (by decide) (Nat.le_of_ble_eq_true rfl) (Nat.le_of_ble_eq_true rfl) rfl (c_objective hz hZ) (fun v s1 hq => ?_) (fun E s1 hq => ?_)
  · obtain ⟨h1, h2, hZ1, hf⟩ := hq
    obtain ⟨a0, ev⟩ := w_il h1 h2 rfl
    cases ev
    refine r_i2l dL_objective_7 rfl ?_
    refine s_last dL_objective_8 (fun s2 hv hf2 => ?_)
    refine r_goto (tgt := 15) dL_objective_9 (by decide) ?_
    refine n_const 0 dL_objective_15 (by decide) ?_
    refine s_iret dL_objective_16 rfl rfl ?_
    exact ⟨_, rfl, by rw [a0], by omega, fun _ => hv, c_Z_fr (zA_objective hz) hZ1 (s_fr_w hf2 (by decide) (by decide)), fun k h3 h4 => (hf2 k (by omega)).trans (hf k (by omega))⟩
  · obtain ⟨h1, h2, hZ1, hf⟩ := hq
    obtain ⟨a0, ev⟩ := w_ir h1 h2 rfl
    rcases w_e1 a0 ev with ⟨ea, rfl⟩
    refine x_catch (z := 3) [] ⟨0, 9, 12, 13⟩ [] rfl (fun z9 hz9 => by cases hz9) (by decide) (by decide) lwc_13 lwe_13 (i := 3) (by decide) rfl (Or.inr ⟨dL_objective_12, rfl, rfl⟩) ?_
    refine n_const 1 dL_objective_13 (by decide) ?_
    refine s_iret dL_objective_14 rfl rfl ?_
    exact ⟨_, rfl, by rw [ea], by omega, fun q => absurd q a0, hZ1, fun k h3 h4 => hf k (by omega)⟩
set_option maxRecDepth 20000 in
set_option maxHeartbeats 1000000 in
theorem lw_utilization {G : q_G} {s : s_T} {z : z_T} (hz : z_wf z) (hZ : c_Z z s) {a : Int32} : s_W G mL_utilization 9 2 12 (w_Pd (A_utilization z a) z s) 0 (q_ent mL_utilization [.ref 0, .int a, .ref 235]) [] s := by
  show s_W G mL_utilization 9 2 12 _ 0 [some (.ref 0), some (.int a), some (.ref 235), none] [] s
  refine r_aload_n dL_utilization_0 rfl rfl ?_
  refine n_const 0 dL_utilization_1 (by decide) ?_
  refine r_aload_n dL_utilization_2 rfl rfl ?_
  refine r_iload_n dL_utilization_3 rfl rfl ?_
  refine s_callV mX11_utilization [.int a] dL_utilization_4 okX11_utilization lL_63 npX11_utilization lysX11 rfl (by decide) (by decide) (by decide) (Nat.le_of_ble_eq_true rfl) (Nat.le_of_ble_eq_true rfl) rfl (c_utilization hz hZ) (fun v s1 hq => ?_) (fun E s1 hq => ?_)
  · obtain ⟨h1, h2, hZ1, hf⟩ := hq
    obtain ⟨a0, ev⟩ := w_il h1 h2 rfl
    cases ev
    refine s_dast dL_utilization_7 (fun s2 hv hv2 hf2 => ?_)
    refine r_goto (tgt := 14) dL_utilization_8 (by decide) ?_
    refine n_const 0 dL_utilization_14 (by decide) ?_
    refine s_iret dL_utilization_15 rfl rfl ?_
    exact ⟨_, rfl, by rw [a0], by omega, fun _ => ⟨hv, hv2⟩, c_Z_fr (hz) hZ1 (s_fr_w hf2 (by decide) (by decide)), fun k h3 h4 => (hf2 k (by omega)).trans (hf k (by omega))⟩
  · obtain ⟨h1, h2, hZ1, hf⟩ := hq
    obtain ⟨a0, ev⟩ := w_ir h1 h2 rfl
    rcases w_e1 a0 ev with ⟨ea, rfl⟩
    refine x_catch (z := 3) [] ⟨0, 8, 11, 21⟩ [] rfl (fun z9 hz9 => by cases hz9) (by decide) (by decide) lwc_21 lwe_21 (i := 3) (by decide) rfl (Or.inr ⟨dL_utilization_11, rfl, rfl⟩) ?_
    refine n_const 1 dL_utilization_12 (by decide) ?_
    refine s_iret dL_utilization_13 rfl rfl ?_
    exact ⟨_, rfl, by rw [ea], by omega, fun q => absurd q a0, hZ1, fun k h3 h4 => hf k (by omega)⟩
set_option maxRecDepth 20000 in
set_option maxHeartbeats 1000000 in
theorem lw_path {G : q_G} {s : s_T} {z : z_T} (hz : z_wf z) (hZ : c_Z z s) {a : Int32} : s_W G mL_path 9 2 12 (w_P (A_path z a) s) 0 (q_ent mL_path [.ref 0, .int a, .ref 234]) [] s := by
  show s_W G mL_path 9 2 12 _ 0 [some (.ref 0), some (.int a), some (.ref 234), none] [] s
  refine r_aload_n dL_path_0 rfl rfl ?_
  refine n_const 0 dL_path_1 (by decide) ?_
  refine r_aload_n dL_path_2 rfl rfl ?_
  refine r_iload_n dL_path_3 rfl rfl ?_
  refine s_callV mX11_path [.int a] dL_path_4 okX11_path lL_67 npX11_path lysX11 rfl (by decide) (by decide) (by decide) (Nat.le_of_ble_eq_true rfl) (Nat.le_of_ble_eq_true rfl) rfl (c_path hz hZ) (fun v s1 hq => ?_) (fun E s1 hq => ?_)
  · obtain ⟨h1, h2, hZ1, hf⟩ := hq
    obtain ⟨a0, ev⟩ := w_il h1 h2 rfl
    cases ev
    refine r_i2l dL_path_7 rfl ?_
    refine s_last dL_path_8 (fun s2 hv hf2 => ?_)
    refine r_goto (tgt := 15) dL_path_9 (by decide) ?_
    refine n_const 0 dL_path_15 (by decide) ?_
    refine s_iret dL_path_16 rfl rfl ?_
    exact ⟨_, rfl, by rw [a0], by omega, fun _ => hv, c_Z_fr (zA_path hz) hZ1 (s_fr_w hf2 (by decide) (by decide)), fun k h3 h4 => (hf2 k (by omega)).trans (hf k (by omega))⟩
  · obtain ⟨h1, h2, hZ1, hf⟩ := hq
    obtain ⟨a0, ev⟩ := w_ir h1 h2 rfl
    rcases w_e1 a0 ev with ⟨ea, rfl⟩
    refine x_catch (z := 3) [] ⟨0, 9, 12, 49⟩ [] rfl (fun z9 hz9 => by cases hz9) (by decide) (by decide) lwc_49 lwe_49 (i := 3) (by decide) rfl (Or.inr ⟨dL_path_12, rfl, rfl⟩) ?_
    refine n_const 1 dL_path_13 (by decide) ?_
    refine s_iret dL_path_14 rfl rfl ?_
    exact ⟨_, rfl, by rw [ea], by omega, fun q => absurd q a0, hZ1, fun k h3 h4 => hf k (by omega)⟩
set_option maxRecDepth 20000 in
set_option maxHeartbeats 1000000 in
theorem lw_blockLength {G : q_G} {s : s_T} {z : z_T} (hz : z_wf z) (hZ : c_Z z s) {a : Int32} : s_W G mL_blockLength 9 2 12 (w_P (A_blockLength z a) s) 0 (q_ent mL_blockLength [.ref 0, .int a, .ref 234]) [] s := by
  show s_W G mL_blockLength 9 2 12 _ 0 [some (.ref 0), some (.int a), some (.ref 234), none] [] s
  refine r_aload_n dL_blockLength_0 rfl rfl ?_
  refine n_const 0 dL_blockLength_1 (by decide) ?_
  refine r_aload_n dL_blockLength_2 rfl rfl ?_
  refine r_iload_n dL_blockLength_3 rfl rfl ?_
  refine s_callV mX11_blockLength [.int a] dL_blockLength_4 okX11_blockLength lL_70 npX11_blockLength lysX11 rfl (by decide) (by decide) (by decide) (Nat.le_of_ble_eq_true rfl) (Nat.le_of_ble_eq_true rfl) rfl (c_blockLength hz hZ) (fun v s1 hq => ?_) (fun E s1 hq => ?_)
  · obtain ⟨h1, h2, hZ1, hf⟩ := hq
    obtain ⟨a0, ev⟩ := w_il h1 h2 rfl
    cases ev
    refine r_i2l dL_blockLength_7 rfl ?_
    refine s_last dL_blockLength_8 (fun s2 hv hf2 => ?_)
    refine r_goto (tgt := 15) dL_blockLength_9 (by decide) ?_
    refine n_const 0 dL_blockLength_15 (by decide) ?_
    refine s_iret dL_blockLength_16 rfl rfl ?_
    exact ⟨_, rfl, by rw [a0], by omega, fun _ => hv, c_Z_fr (zA_blockLength hz) hZ1 (s_fr_w hf2 (by decide) (by decide)), fun k h3 h4 => (hf2 k (by omega)).trans (hf k (by omega))⟩
  · obtain ⟨h1, h2, hZ1, hf⟩ := hq
    obtain ⟨a0, ev⟩ := w_ir h1 h2 rfl
    rcases w_e1 a0 ev with ⟨ea, rfl⟩
    refine x_catch (z := 3) [] ⟨0, 9, 12, 49⟩ [] rfl (fun z9 hz9 => by cases hz9) (by decide) (by decide) lwc_49 lwe_49 (i := 3) (by decide) rfl (Or.inr ⟨dL_blockLength_12, rfl, rfl⟩) ?_
    refine n_const 1 dL_blockLength_13 (by decide) ?_
    refine s_iret dL_blockLength_14 rfl rfl ?_
    exact ⟨_, rfl, by rw [ea], by omega, fun q => absurd q a0, hZ1, fun k h3 h4 => hf k (by omega)⟩
set_option maxRecDepth 20000 in
set_option maxHeartbeats 1000000 in
theorem lw_swap {G : q_G} {s : s_T} {z : z_T} (hz : z_wf z) (hZ : c_Z z s) {a b : Int32} : s_W G mL_swap 9 3 18 (w_P (A_swap z a b) s) 0 (q_ent mL_swap [.ref 0, .int a, .int b, .ref 234]) [] s := by
  show s_W G mL_swap 9 3 18 _ 0 [some (.ref 0), some (.int a), some (.int b), some (.ref 234), none] [] s
  refine r_aload_n dL_swap_0 rfl rfl ?_
  refine n_const 0 dL_swap_1 (by decide) ?_
  refine r_aload_n dL_swap_2 rfl rfl ?_
  refine r_iload_n dL_swap_3 rfl rfl ?_
  refine r_iload_n dL_swap_4 rfl rfl ?_
  refine s_callV mX11_swap [.int a, .int b] dL_swap_5 okX11_swap lL_73 npX11_swap lysX11 rfl (by decide) (by decide) (by decide) (Nat.le_of_ble_eq_true rfl) (Nat.le_of_ble_eq_true rfl) rfl (c_swap hz hZ) (fun v s1 hq => ?_) (fun E s1 hq => ?_)
  · obtain ⟨h1, h2, hZ1, hf⟩ := hq
    obtain ⟨a0, ev⟩ := w_il h1 h2 rfl
    cases ev
    refine r_i2l dL_swap_8 rfl ?_
    refine s_last dL_swap_9 (fun s2 hv hf2 => ?_)
    refine r_goto (tgt := 25) dL_swap_10 (by decide) ?_
    refine n_const 0 dL_swap_25 (by decide) ?_
    refine s_iret dL_swap_26 rfl rfl ?_
    exact ⟨_, rfl, by rw [a0], by omega, fun _ => hv, c_Z_fr (zA_swap hz) hZ1 (s_fr_w hf2 (by decide) (by decide)), fun k h3 h4 => (hf2 k (by omega)).trans (hf k (by omega))⟩
  · obtain ⟨h1, h2, hZ1, hf⟩ := hq
    obtain ⟨a0, ev⟩ := w_ir h1 h2 rfl
    rcases w_e3 a0 ev with ⟨ea, rfl⟩ | ⟨ea, rfl⟩ | ⟨ea, rfl⟩
    · refine x_catch (z := 0) [] ⟨0, 10, 13, 21⟩ [⟨0, 10, 17, 49⟩, ⟨0, 10, 21, 15⟩] rfl (fun z9 hz9 => by cases hz9) (by decide) (by decide) lwc_21 lwe_21 (i := 4) (by decide) rfl (Or.inl ⟨dL_swap_13, rfl⟩) ?_
      refine n_const 1 dL_swap_15 (by decide) ?_
      refine s_iret dL_swap_16 rfl rfl ?_
      exact ⟨_, rfl, by rw [ea], by omega, fun q => absurd q a0, hZ1, fun k h3 h4 => hf k (by omega)⟩
    · refine x_catch (z := 0) [⟨0, 10, 13, 21⟩] ⟨0, 10, 17, 49⟩ [⟨0, 10, 21, 15⟩] rfl (fun z9 hz9 => Or.inr (by rcases List.mem_singleton.mp hz9 with rfl <;> exact ⟨by decide, _, by first | exact lwc_13 | exact lwc_15 | exact lwc_21 | exact lwc_49, by decide +kernel⟩)) (by decide) (by decide) lwc_49 lwe_49 (i := 4) (by decide) rfl (Or.inl ⟨dL_swap_17, rfl⟩) ?_
      refine n_const 2 dL_swap_19 (by decide) ?_
      refine s_iret dL_swap_20 rfl rfl ?_
      exact ⟨_, rfl, by rw [ea], by omega, fun q => absurd q a0, hZ1, fun k h3 h4 => hf k (by omega)⟩
    · refine x_catch (z := 0) [⟨0, 10, 13, 21⟩, ⟨0, 10, 17, 49⟩] ⟨0, 10, 21, 15⟩ [] rfl (fun z9 hz9 => Or.inr (by rcases (show z9 = _ ∨ z9 = _ by simpa using hz9) with rfl | rfl <;> exact ⟨by decide, _, by first | exact lwc_13 | exact lwc_15 | exact lwc_21 | exact lwc_49, by decide +kernel⟩)) (by decide) (by decide) lwc_15 lwe_15 (i := 4) (by decide) rfl (Or.inl ⟨dL_swap_21, rfl⟩) ?_
      refine n_const 3 dL_swap_23 (by decide) ?_
      refine s_iret dL_swap_24 rfl rfl ?_
      exact ⟨_, rfl, by rw [ea], by omega, fun q => absurd q a0, hZ1, fun k h3 h4 => hf k (by omega)⟩
set_option maxRecDepth 20000 in
set_option maxHeartbeats 1000000 in
theorem lw_move {G : q_G} {s : s_T} {z : z_T} (hz : z_wf z) (hZ : c_Z z s) {a b : Int32} : s_W G mL_move 9 3 18 (w_P (A_move z a b) s) 0 (q_ent mL_move [.ref 0, .int a, .int b, .ref 234]) [] s := by
  show s_W G mL_move 9 3 18 _ 0 [some (.ref 0), some (.int a), some (.int b), some (.ref 234), none] [] s
  refine r_aload_n dL_move_0 rfl rfl ?_
  refine n_const 0 dL_move_1 (by decide) ?_
  refine r_aload_n dL_move_2 rfl rfl ?_
  refine r_iload_n dL_move_3 rfl rfl ?_
  refine r_iload_n dL_move_4 rfl rfl ?_
  refine s_callV mX11_move [.int a, .int b] dL_move_5 okX11_move lL_76 npX11_move lysX11 rfl (by decide) (by decide) (by decide) (Nat.le_of_ble_eq_true rfl) (Nat.le_of_ble_eq_true rfl) rfl (c_move hz hZ) (fun v s1 hq => ?_) (fun E s1 hq => ?_)
  · obtain ⟨h1, h2, hZ1, hf⟩ := hq
    obtain ⟨a0, ev⟩ := w_il h1 h2 rfl
    cases ev
    refine r_i2l dL_move_8 rfl ?_
    refine s_last dL_move_9 (fun s2 hv hf2 => ?_)
    refine r_goto (tgt := 25) dL_move_10 (by decide) ?_
    refine n_const 0 dL_move_25 (by decide) ?_
    refine s_iret dL_move_26 rfl rfl ?_
    exact ⟨_, rfl, by rw [a0], by omega, fun _ => hv, c_Z_fr (zA_move hz) hZ1 (s_fr_w hf2 (by decide) (by decide)), fun k h3 h4 => (hf2 k (by omega)).trans (hf k (by omega))⟩
  · obtain ⟨h1, h2, hZ1, hf⟩ := hq
    obtain ⟨a0, ev⟩ := w_ir h1 h2 rfl
    rcases w_e3 a0 ev with ⟨ea, rfl⟩ | ⟨ea, rfl⟩ | ⟨ea, rfl⟩
    · refine x_catch (z := 0) [] ⟨0, 10, 13, 21⟩ [⟨0, 10, 17, 13⟩, ⟨0, 10, 21, 15⟩] rfl (fun z9 hz9 => by cases hz9) (by decide) (by decide) lwc_21 lwe_21 (i := 4) (by decide) rfl (Or.inl ⟨dL_move_13, rfl⟩) ?_
      refine n_const 1 dL_move_15 (by decide) ?_
      refine s_iret dL_move_16 rfl rfl ?_
      exact ⟨_, rfl, by rw [ea], by omega, fun q => absurd q a0, hZ1, fun k h3 h4 => hf k (by omega)⟩
    · refine x_catch (z := 0) [⟨0, 10, 13, 21⟩] ⟨0, 10, 17, 13⟩ [⟨0, 10, 21, 15⟩] rfl (fun z9 hz9 => Or.inr (by rcases List.mem_singleton.mp hz9 with rfl <;> exact ⟨by decide, _, by first | exact lwc_13 | exact lwc_15 | exact lwc_21 | exact lwc_49, by decide +kernel⟩)) (by decide) (by decide) lwc_13 lwe_13 (i := 4) (by decide) rfl (Or.inl ⟨dL_move_17, rfl⟩) ?_
      refine n_const 2 dL_move_19 (by decide) ?_
      refine s_iret dL_move_20 rfl rfl ?_
      exact ⟨_, rfl, by rw [ea], by omega, fun q => absurd q a0, hZ1, fun k h3 h4 => hf k (by omega)⟩
    · refine x_catch (z := 0) [⟨0, 10, 13, 21⟩, ⟨0, 10, 17, 13⟩] ⟨0, 10, 21, 15⟩ [] rfl (fun z9 hz9 => Or.inr (by rcases (show z9 = _ ∨ z9 = _ by simpa using hz9) with rfl | rfl <;> exact ⟨by decide, _, by first | exact lwc_13 | exact lwc_15 | exact lwc_21 | exact lwc_49, by decide +kernel⟩)) (by decide) (by decide) lwc_15 lwe_15 (i := 4) (by decide) rfl (Or.inl ⟨dL_move_21, rfl⟩) ?_
      refine n_const 3 dL_move_23 (by decide) ?_
      refine s_iret dL_move_24 rfl rfl ?_
      exact ⟨_, rfl, by rw [ea], by omega, fun q => absurd q a0, hZ1, fun k h3 h4 => hf k (by omega)⟩
set_option maxRecDepth 20000 in
set_option maxHeartbeats 1000000 in
theorem lw_dispatch {G : q_G} {s : s_T} {z : z_T} (hz : z_wf z) (hZ : c_Z z s) {a : Int32} : s_W G mL_dispatch 9 2 12 (w_P (A_dispatch z a) s) 0 (q_ent mL_dispatch [.ref 0, .int a, .ref 234]) [] s := by
  show s_W G mL_dispatch 9 2 12 _ 0 [some (.ref 0), some (.int a), some (.ref 234), none] [] s
  refine r_aload_n dL_dispatch_0 rfl rfl ?_
  refine n_const 0 dL_dispatch_1 (by decide) ?_
  refine r_aload_n dL_dispatch_2 rfl rfl ?_
  refine r_iload_n dL_dispatch_3 rfl rfl ?_
  refine s_callV mX11_dispatch [.int a] dL_dispatch_4 okX11_dispatch lL_79 npX11_dispatch lysX11 rfl (by decide) (by decide) (by decide) (Nat.le_of_ble_eq_true rfl) (Nat.le_of_ble_eq_true rfl) rfl (c_dispatch hz hZ) (fun v s1 hq => ?_) (fun E s1 hq => ?_)
  · obtain ⟨h1, h2, hZ1, hf⟩ := hq
    obtain ⟨a0, ev⟩ := w_il h1 h2 rfl
    cases ev
    refine r_i2l dL_dispatch_7 rfl ?_
    refine s_last dL_dispatch_8 (fun s2 hv hf2 => ?_)
    refine r_goto (tgt := 15) dL_dispatch_9 (by decide) ?_
    refine n_const 0 dL_dispatch_15 (by decide) ?_
    refine s_iret dL_dispatch_16 rfl rfl ?_
    exact ⟨_, rfl, by rw [a0], by omega, fun _ => hv, c_Z_fr (zA_dispatch hz) hZ1 (s_fr_w hf2 (by decide) (by decide)), fun k h3 h4 => (hf2 k (by omega)).trans (hf k (by omega))⟩
  · obtain ⟨h1, h2, hZ1, hf⟩ := hq
    obtain ⟨a0, ev⟩ := w_ir h1 h2 rfl
    rcases w_e1 a0 ev with ⟨ea, rfl⟩
    refine x_catch (z := 3) [] ⟨0, 9, 12, 13⟩ [] rfl (fun z9 hz9 => by cases hz9) (by decide) (by decide) lwc_13 lwe_13 (i := 3) (by decide) rfl (Or.inr ⟨dL_dispatch_12, rfl, rfl⟩) ?_
    refine n_const 1 dL_dispatch_13 (by decide) ?_
    refine s_iret dL_dispatch_14 rfl rfl ?_
    exact ⟨_, rfl, by rw [ea], by omega, fun q => absurd q a0, hZ1, fun k h3 h4 => hf k (by omega)⟩
set_option maxRecDepth 20000 in
set_option maxHeartbeats 1000000 in
theorem lw_repair {G : q_G} {s : s_T} {z : z_T} (hz : z_wf z) (hZ : c_Z z s) {a b : Int32} : s_W G mL_repair 9 2 12 (w_P (A_repair z a b) s) 0 (q_ent mL_repair [.ref 0, .int a, .int b, .ref 234]) [] s := by
  show s_W G mL_repair 9 2 12 _ 0 [some (.ref 0), some (.int a), some (.int b), some (.ref 234), none] [] s
  refine r_aload_n dL_repair_0 rfl rfl ?_
  refine n_const 0 dL_repair_1 (by decide) ?_
  refine r_aload_n dL_repair_2 rfl rfl ?_
  refine r_iload_n dL_repair_3 rfl rfl ?_
  refine r_iload_n dL_repair_4 rfl rfl ?_
  refine s_callV mX11_repair [.int a, .int b] dL_repair_5 okX11_repair lL_82 npX11_repair lysX11 rfl (by decide) (by decide) (by decide) (Nat.le_of_ble_eq_true rfl) (Nat.le_of_ble_eq_true rfl) rfl (c_repair hz hZ) (fun v s1 hq => ?_) (fun E s1 hq => ?_)
  · obtain ⟨h1, h2, hZ1, hf⟩ := hq
    obtain ⟨a0, ev⟩ := w_il h1 h2 rfl
    cases ev
    refine r_i2l dL_repair_8 rfl ?_
    refine s_last dL_repair_9 (fun s2 hv hf2 => ?_)
    refine r_goto (tgt := 17) dL_repair_10 (by decide) ?_
    refine n_const 0 dL_repair_17 (by decide) ?_
    refine s_iret dL_repair_18 rfl rfl ?_
    exact ⟨_, rfl, by rw [a0], by omega, fun _ => hv, c_Z_fr (zA_repair hz) hZ1 (s_fr_w hf2 (by decide) (by decide)), fun k h3 h4 => (hf2 k (by omega)).trans (hf k (by omega))⟩
  · obtain ⟨h1, h2, hZ1, hf⟩ := hq
    obtain ⟨a0, ev⟩ := w_ir h1 h2 rfl
    rcases w_e1 a0 ev with ⟨ea, rfl⟩
    refine x_catch (z := 0) [] ⟨0, 10, 13, 13⟩ [] rfl (fun z9 hz9 => by cases hz9) (by decide) (by decide) lwc_13 lwe_13 (i := 4) (by decide) rfl (Or.inl ⟨dL_repair_13, rfl⟩) ?_
    refine n_const 1 dL_repair_15 (by decide) ?_
    refine s_iret dL_repair_16 rfl rfl ?_
    exact ⟨_, rfl, by rw [ea], by omega, fun q => absurd q a0, hZ1, fun k h3 h4 => hf k (by omega)⟩
set_option maxRecDepth 20000 in
set_option maxHeartbeats 1000000 in
theorem lw_best {G : q_G} {s : s_T} {z : z_T} (hz : z_wf z) (hZ : c_Z z s) {a : Int32} : s_W G mL_best 9 2 12 (w_P (A_best z a) s) 0 (q_ent mL_best [.ref 0, .int a, .ref 234]) [] s := by
  show s_W G mL_best 9 2 12 _ 0 [some (.ref 0), some (.int a), some (.ref 234), none] [] s
  refine r_aload_n dL_best_0 rfl rfl ?_
  refine n_const 0 dL_best_1 (by decide) ?_
  refine r_aload_n dL_best_2 rfl rfl ?_
  refine r_iload_n dL_best_3 rfl rfl ?_
  refine s_callV mX11_best [.int a] dL_best_4 okX11_best lL_85 npX11_best lysX11 rfl (by decide) (by decide) (by decide) (Nat.le_of_ble_eq_true rfl) (Nat.le_of_ble_eq_true rfl) rfl (c_best hz hZ) (fun v s1 hq => ?_) (fun E s1 hq => ?_)
  · obtain ⟨h1, h2, hZ1, hf⟩ := hq
    obtain ⟨a0, ev⟩ := w_il h1 h2 rfl
    cases ev
    refine r_i2l dL_best_7 rfl ?_
    refine s_last dL_best_8 (fun s2 hv hf2 => ?_)
    refine r_goto (tgt := 15) dL_best_9 (by decide) ?_
    refine n_const 0 dL_best_15 (by decide) ?_
    refine s_iret dL_best_16 rfl rfl ?_
    exact ⟨_, rfl, by rw [a0], by omega, fun _ => hv, c_Z_fr (zA_best hz) hZ1 (s_fr_w hf2 (by decide) (by decide)), fun k h3 h4 => (hf2 k (by omega)).trans (hf k (by omega))⟩
  · obtain ⟨h1, h2, hZ1, hf⟩ := hq
    obtain ⟨a0, ev⟩ := w_ir h1 h2 rfl
    rcases w_e1 a0 ev with ⟨ea, rfl⟩
    refine x_catch (z := 3) [] ⟨0, 9, 12, 21⟩ [] rfl (fun z9 hz9 => by cases hz9) (by decide) (by decide) lwc_21 lwe_21 (i := 3) (by decide) rfl (Or.inr ⟨dL_best_12, rfl, rfl⟩) ?_
    refine n_const 1 dL_best_13 (by decide) ?_
    refine s_iret dL_best_14 rfl rfl ?_
    exact ⟨_, rfl, by rw [ea], by omega, fun q => absurd q a0, hZ1, fun k h3 h4 => hf k (by omega)⟩
set_option maxRecDepth 20000 in
set_option maxHeartbeats 1000000 in
theorem lw_reoptimize {G : q_G} {s : s_T} {z : z_T} (hz : z_wf z) (hZ : c_Z z s) {a : Int32} : s_W G mL_reoptimize 9 2 12 (w_P (A_reoptimize z a) s) 0 (q_ent mL_reoptimize [.ref 0, .int a, .ref 234]) [] s := by
  show s_W G mL_reoptimize 9 2 12 _ 0 [some (.ref 0), some (.int a), some (.ref 234), none] [] s
  refine r_aload_n dL_reoptimize_0 rfl rfl ?_
  refine n_const 0 dL_reoptimize_1 (by decide) ?_
  refine r_aload_n dL_reoptimize_2 rfl rfl ?_
  refine r_iload_n dL_reoptimize_3 rfl rfl ?_
  refine s_callV mX11_reoptimize [.int a] dL_reoptimize_4 okX11_reoptimize lL_88 npX11_reoptimize lysX11 rfl (by decide) (by decide) (by decide) (Nat.le_of_ble_eq_true rfl) (Nat.le_of_ble_eq_true rfl) rfl (c_reoptimize hz hZ) (fun v s1 hq => ?_) (fun E s1 hq => ?_)
  · obtain ⟨h1, h2, hZ1, hf⟩ := hq
    obtain ⟨a0, ev⟩ := w_il h1 h2 rfl
    cases ev
    refine r_i2l dL_reoptimize_7 rfl ?_
    refine s_last dL_reoptimize_8 (fun s2 hv hf2 => ?_)
    refine r_goto (tgt := 15) dL_reoptimize_9 (by decide) ?_
    refine n_const 0 dL_reoptimize_15 (by decide) ?_
    refine s_iret dL_reoptimize_16 rfl rfl ?_
    exact ⟨_, rfl, by rw [a0], by omega, fun _ => hv, c_Z_fr (zA_reoptimize hz) hZ1 (s_fr_w hf2 (by decide) (by decide)), fun k h3 h4 => (hf2 k (by omega)).trans (hf k (by omega))⟩
  · obtain ⟨h1, h2, hZ1, hf⟩ := hq
    obtain ⟨a0, ev⟩ := w_ir h1 h2 rfl
    rcases w_e1 a0 ev with ⟨ea, rfl⟩
    refine x_catch (z := 3) [] ⟨0, 9, 12, 21⟩ [] rfl (fun z9 hz9 => by cases hz9) (by decide) (by decide) lwc_21 lwe_21 (i := 3) (by decide) rfl (Or.inr ⟨dL_reoptimize_12, rfl, rfl⟩) ?_
    refine n_const 1 dL_reoptimize_13 (by decide) ?_
    refine s_iret dL_reoptimize_14 rfl rfl ?_
    exact ⟨_, rfl, by rw [ea], by omega, fun q => absurd q a0, hZ1, fun k h3 h4 => hf k (by omega)⟩
set_option maxRecDepth 20000 in
set_option maxHeartbeats 1000000 in
theorem lw_bottleneck {G : q_G} {s : s_T} {z : z_T} (hz : z_wf z) (hZ : c_Z z s) {a : Int32} : s_W G mL_bottleneck 9 2 12 (w_P (A_bottleneck z a) s) 0 (q_ent mL_bottleneck [.ref 0, .int a, .ref 234]) [] s := by
  show s_W G mL_bottleneck 9 2 12 _ 0 [some (.ref 0), some (.int a), some (.ref 234), none] [] s
  refine r_aload_n dL_bottleneck_0 rfl rfl ?_
  refine n_const 0 dL_bottleneck_1 (by decide) ?_
  refine r_aload_n dL_bottleneck_2 rfl rfl ?_
  refine r_iload_n dL_bottleneck_3 rfl rfl ?_
  refine s_callV mX11_bottleneck [.int a] dL_bottleneck_4 okX11_bottleneck lL_91 npX11_bottleneck lysX11 rfl (by decide) (by decide) (by decide) (Nat.le_of_ble_eq_true rfl) (Nat.le_of_ble_eq_true rfl) rfl (c_bottleneck hz hZ) (fun v s1 hq => ?_) (fun E s1 hq => ?_)
  · obtain ⟨h1, h2, hZ1, hf⟩ := hq
    obtain ⟨a0, ev⟩ := w_il h1 h2 rfl
    cases ev
    refine r_i2l dL_bottleneck_7 rfl ?_
    refine s_last dL_bottleneck_8 (fun s2 hv hf2 => ?_)
    refine r_goto (tgt := 15) dL_bottleneck_9 (by decide) ?_
    refine n_const 0 dL_bottleneck_15 (by decide) ?_
    refine s_iret dL_bottleneck_16 rfl rfl ?_
    exact ⟨_, rfl, by rw [a0], by omega, fun _ => hv, c_Z_fr (zA_bottleneck hz) hZ1 (s_fr_w hf2 (by decide) (by decide)), fun k h3 h4 => (hf2 k (by omega)).trans (hf k (by omega))⟩
  · obtain ⟨h1, h2, hZ1, hf⟩ := hq
    obtain ⟨a0, ev⟩ := w_ir h1 h2 rfl
    rcases w_e1 a0 ev with ⟨ea, rfl⟩
    refine x_catch (z := 3) [] ⟨0, 9, 12, 49⟩ [] rfl (fun z9 hz9 => by cases hz9) (by decide) (by decide) lwc_49 lwe_49 (i := 3) (by decide) rfl (Or.inr ⟨dL_bottleneck_12, rfl, rfl⟩) ?_
    refine n_const 1 dL_bottleneck_13 (by decide) ?_
    refine s_iret dL_bottleneck_14 rfl rfl ?_
    exact ⟨_, rfl, by rw [ea], by omega, fun q => absurd q a0, hZ1, fun k h3 h4 => hf k (by omega)⟩
set_option maxRecDepth 20000 in
set_option maxHeartbeats 1000000 in
theorem lw_tabu {G : q_G} {s : s_T} {z : z_T} (hz : z_wf z) (hZ : c_Z z s) {a b : Int32} : s_W G mL_tabu 9 2 12 (w_P (A_tabu z a b) s) 0 (q_ent mL_tabu [.ref 0, .int a, .int b, .ref 234]) [] s := by
  show s_W G mL_tabu 9 2 12 _ 0 [some (.ref 0), some (.int a), some (.int b), some (.ref 234), none] [] s
  refine r_aload_n dL_tabu_0 rfl rfl ?_
  refine n_const 0 dL_tabu_1 (by decide) ?_
  refine r_aload_n dL_tabu_2 rfl rfl ?_
  refine r_iload_n dL_tabu_3 rfl rfl ?_
  refine r_iload_n dL_tabu_4 rfl rfl ?_
  refine s_callV mX11_tabu [.int a, .int b] dL_tabu_5 okX11_tabu lL_94 npX11_tabu lysX11 rfl (by decide) (by decide) (by decide) (Nat.le_of_ble_eq_true rfl) (Nat.le_of_ble_eq_true rfl) rfl (c_tabu hz hZ) (fun v s1 hq => ?_) (fun E s1 hq => ?_)
  · obtain ⟨h1, h2, hZ1, hf⟩ := hq
    obtain ⟨a0, ev⟩ := w_il h1 h2 rfl
    cases ev
    refine r_i2l dL_tabu_8 rfl ?_
    refine s_last dL_tabu_9 (fun s2 hv hf2 => ?_)
    refine r_goto (tgt := 17) dL_tabu_10 (by decide) ?_
    refine n_const 0 dL_tabu_17 (by decide) ?_
    refine s_iret dL_tabu_18 rfl rfl ?_
    exact ⟨_, rfl, by rw [a0], by omega, fun _ => hv, c_Z_fr (zA_tabu hz) hZ1 (s_fr_w hf2 (by decide) (by decide)), fun k h3 h4 => (hf2 k (by omega)).trans (hf k (by omega))⟩
  · obtain ⟨h1, h2, hZ1, hf⟩ := hq
    obtain ⟨a0, ev⟩ := w_ir h1 h2 rfl
    rcases w_e1 a0 ev with ⟨ea, rfl⟩
    refine x_catch (z := 0) [] ⟨0, 10, 13, 13⟩ [] rfl (fun z9 hz9 => by cases hz9) (by decide) (by decide) lwc_13 lwe_13 (i := 4) (by decide) rfl (Or.inl ⟨dL_tabu_13, rfl⟩) ?_
    refine n_const 1 dL_tabu_15 (by decide) ?_
    refine s_iret dL_tabu_16 rfl rfl ?_
    exact ⟨_, rfl, by rw [ea], by omega, fun q => absurd q a0, hZ1, fun k h3 h4 => hf k (by omega)⟩
set_option maxRecDepth 20000 in
set_option maxHeartbeats 1000000 in
theorem lw_bound {G : q_G} {s : s_T} {z : z_T} (hz : z_wf z) (hZ : c_Z z s) {a : Int32} : s_W G mL_bound 9 2 12 (w_P (A_bound z a) s) 0 (q_ent mL_bound [.ref 0, .int a, .ref 234]) [] s := by
  show s_W G mL_bound 9 2 12 _ 0 [some (.ref 0), some (.int a), some (.ref 234), none] [] s
  refine r_aload_n dL_bound_0 rfl rfl ?_
  refine n_const 0 dL_bound_1 (by decide) ?_
  refine r_aload_n dL_bound_2 rfl rfl ?_
  refine r_iload_n dL_bound_3 rfl rfl ?_
  refine s_callV mX11_bound [.int a] dL_bound_4 okX11_bound lL_97 npX11_bound lysX11 rfl (by decide) (by decide) (by decide) (Nat.le_of_ble_eq_true rfl) (Nat.le_of_ble_eq_true rfl) rfl (c_bound hz hZ) (fun v s1 hq => ?_) (fun E s1 hq => ?_)
  · obtain ⟨h1, h2, hZ1, hf⟩ := hq
    obtain ⟨a0, ev⟩ := w_il h1 h2 rfl
    cases ev
    refine r_i2l dL_bound_7 rfl ?_
    refine s_last dL_bound_8 (fun s2 hv hf2 => ?_)
    refine r_goto (tgt := 15) dL_bound_9 (by decide) ?_
    refine n_const 0 dL_bound_15 (by decide) ?_
    refine s_iret dL_bound_16 rfl rfl ?_
    exact ⟨_, rfl, by rw [a0], by omega, fun _ => hv, c_Z_fr (zA_bound hz) hZ1 (s_fr_w hf2 (by decide) (by decide)), fun k h3 h4 => (hf2 k (by omega)).trans (hf k (by omega))⟩
  · obtain ⟨h1, h2, hZ1, hf⟩ := hq
    obtain ⟨a0, ev⟩ := w_ir h1 h2 rfl
    rcases w_e1 a0 ev with ⟨ea, rfl⟩
    refine x_catch (z := 3) [] ⟨0, 9, 12, 21⟩ [] rfl (fun z9 hz9 => by cases hz9) (by decide) (by decide) lwc_21 lwe_21 (i := 3) (by decide) rfl (Or.inr ⟨dL_bound_12, rfl, rfl⟩) ?_
    refine n_const 1 dL_bound_13 (by decide) ?_
    refine s_iret dL_bound_14 rfl rfl ?_
    exact ⟨_, rfl, by rw [ea], by omega, fun q => absurd q a0, hZ1, fun k h3 h4 => hf k (by omega)⟩
set_option maxRecDepth 20000 in
set_option maxHeartbeats 1000000 in
theorem lw_append {G : q_G} {s : s_T} {z : z_T} (hz : z_wf z) (hZ : c_Z z s) {a : Nat} (hc : a < 65536) : s_W G mL_append 9 2 12 (w_Pv (A_append z a) s) 0 (q_ent mL_append [.ref 0, .int (nI a)]) [] s := by
  show s_W G mL_append 9 2 12 _ 0 [some (.ref 0), some (.int (nI a)), none] [] s
  refine r_aload_n dL_append_0 rfl rfl ?_
  refine r_iload_n dL_append_1 rfl rfl ?_
  refine s_callV mX11_append [.int (nI a)] dL_append_2 okX11_append lL_100 npX11_append lysX11 rfl (by decide) (by decide) (by decide) (Nat.le_of_ble_eq_true rfl) (Nat.le_of_ble_eq_true rfl) rfl (c_append hz hZ hc) (fun v s1 hq => ?_) (fun E s1 hq => ?_)
  · obtain ⟨h1, h2, hZ1, hf⟩ := hq
    obtain ⟨a0, ev⟩ := w_il h1 h2 rfl
    cases ev
    refine r_goto (tgt := 11) dL_append_5 (by decide) ?_
    refine n_const 0 dL_append_11 (by decide) ?_
    refine s_iret dL_append_12 rfl rfl ?_
    exact ⟨_, rfl, by rw [a0], by omega, hZ1, fun k h3 h4 => hf k (by omega)⟩
  · obtain ⟨h1, h2, hZ1, hf⟩ := hq
    obtain ⟨a0, ev⟩ := w_ir h1 h2 rfl
    rcases w_e1 a0 ev with ⟨ea, rfl⟩
    refine x_catch (z := 2) [] ⟨0, 5, 8, 15⟩ [] rfl (fun z9 hz9 => by cases hz9) (by decide) (by decide) lwc_15 lwe_15 (i := 2) (by decide) rfl (Or.inr ⟨dL_append_8, rfl, rfl⟩) ?_
    refine n_const 1 dL_append_9 (by decide) ?_
    refine s_iret dL_append_10 rfl rfl ?_
    exact ⟨_, rfl, by rw [ea], by omega, hZ1, fun k h3 h4 => hf k (by omega)⟩
set_option maxRecDepth 20000 in
set_option maxHeartbeats 1000000 in
theorem lw_read {G : q_G} {s : s_T} {z : z_T} (hz : z_wf z) (hZ : c_Z z s) : s_W G mL_read 9 2 12 (w_P (A_read z) s) 0 (q_ent mL_read [.ref 0, .ref 234]) [] s := by
  show s_W G mL_read 9 2 12 _ 0 [some (.ref 0), some (.ref 234), none] [] s
  refine r_aload_n dL_read_0 rfl rfl ?_
  refine n_const 0 dL_read_1 (by decide) ?_
  refine r_aload_n dL_read_2 rfl rfl ?_
  refine s_callV mX11_read [] dL_read_3 okX11_read lL_104 npX11_read lysX11 rfl (by decide) (by decide) (by decide) (Nat.le_of_ble_eq_true rfl) (Nat.le_of_ble_eq_true rfl) rfl (c_read hz hZ) (fun v s1 hq => ?_) (fun E s1 hq => ?_)
  · obtain ⟨h1, h2, hZ1, hf⟩ := hq
    obtain ⟨a0, ev⟩ := w_il h1 h2 rfl
    cases ev
    refine r_i2l dL_read_6 rfl ?_
    refine s_last dL_read_7 (fun s2 hv hf2 => ?_)
    refine r_goto (tgt := 17) dL_read_8 (by decide) ?_
    refine n_const 0 dL_read_17 (by decide) ?_
    refine s_iret dL_read_18 rfl rfl ?_
    exact ⟨_, rfl, by rw [a0], by omega, fun _ => hv, c_Z_fr (zA_read hz) hZ1 (s_fr_w hf2 (by decide) (by decide)), fun k h3 h4 => (hf2 k (by omega)).trans (hf k (by omega))⟩
  · obtain ⟨h1, h2, hZ1, hf⟩ := hq
    obtain ⟨a0, ev⟩ := w_ir h1 h2 rfl
    rcases w_e2 a0 ev with ⟨ea, rfl⟩ | ⟨ea, rfl⟩
    · refine x_catch (z := 2) [] ⟨0, 8, 11, 13⟩ [⟨0, 8, 14, 15⟩] rfl (fun z9 hz9 => by cases hz9) (by decide) (by decide) lwc_13 lwe_13 (i := 2) (by decide) rfl (Or.inr ⟨dL_read_11, rfl, rfl⟩) ?_
      refine n_const 1 dL_read_12 (by decide) ?_
      refine s_iret dL_read_13 rfl rfl ?_
      exact ⟨_, rfl, by rw [ea], by omega, fun q => absurd q a0, hZ1, fun k h3 h4 => hf k (by omega)⟩
    · refine x_catch (z := 2) [⟨0, 8, 11, 13⟩] ⟨0, 8, 14, 15⟩ [] rfl (fun z9 hz9 => Or.inr (by rcases List.mem_singleton.mp hz9 with rfl <;> exact ⟨by decide, _, by first | exact lwc_13 | exact lwc_15 | exact lwc_21 | exact lwc_49, by decide +kernel⟩)) (by decide) (by decide) lwc_15 lwe_15 (i := 2) (by decide) rfl (Or.inr ⟨dL_read_14, rfl, rfl⟩) ?_
      refine n_const 2 dL_read_15 (by decide) ?_
      refine s_iret dL_read_16 rfl rfl ?_
      exact ⟨_, rfl, by rw [ea], by omega, fun q => absurd q a0, hZ1, fun k h3 h4 => hf k (by omega)⟩
set_option maxRecDepth 20000 in
set_option maxHeartbeats 1000000 in
theorem lw_failure {G : q_G} {s : s_T} {z : z_T} (hz : z_wf z) (hZ : c_Z z s) {a : Int32} : s_W G mL_failure 9 2 12 (w_P (A_failure z a) s) 0 (q_ent mL_failure [.ref 0, .int a, .ref 234]) [] s := by
  show s_W G mL_failure 9 2 12 _ 0 [some (.ref 0), some (.int a), some (.ref 234), none] [] s
  refine r_aload_n dL_failure_0 rfl rfl ?_
  refine n_const 0 dL_failure_1 (by decide) ?_
  refine r_aload_n dL_failure_2 rfl rfl ?_
  refine r_iload_n dL_failure_3 rfl rfl ?_
  refine s_callV mX11_failure [.int a] dL_failure_4 okX11_failure lL_108 npX11_failure lysX11 rfl (by decide) (by decide) (by decide) (Nat.le_of_ble_eq_true rfl) (Nat.le_of_ble_eq_true rfl) rfl (c_failure hz hZ) (fun v s1 hq => ?_) (fun E s1 hq => ?_)
  · obtain ⟨h1, h2, hZ1, hf⟩ := hq
    obtain ⟨a0, ev⟩ := w_il h1 h2 rfl
    cases ev
    refine r_i2l dL_failure_7 rfl ?_
    refine s_last dL_failure_8 (fun s2 hv hf2 => ?_)
    refine r_goto (tgt := 15) dL_failure_9 (by decide) ?_
    refine n_const 0 dL_failure_15 (by decide) ?_
    refine s_iret dL_failure_16 rfl rfl ?_
    exact ⟨_, rfl, by rw [a0], by omega, fun _ => hv, c_Z_fr (zA_failure hz) hZ1 (s_fr_w hf2 (by decide) (by decide)), fun k h3 h4 => (hf2 k (by omega)).trans (hf k (by omega))⟩
  · obtain ⟨h1, h2, hZ1, hf⟩ := hq
    obtain ⟨a0, ev⟩ := w_ir h1 h2 rfl
    rcases w_e1 a0 ev with ⟨ea, rfl⟩
    refine x_catch (z := 3) [] ⟨0, 9, 12, 13⟩ [] rfl (fun z9 hz9 => by cases hz9) (by decide) (by decide) lwc_13 lwe_13 (i := 3) (by decide) rfl (Or.inr ⟨dL_failure_12, rfl, rfl⟩) ?_
    refine n_const 1 dL_failure_13 (by decide) ?_
    refine s_iret dL_failure_14 rfl rfl ?_
    exact ⟨_, rfl, by rw [ea], by omega, fun q => absurd q a0, hZ1, fun k h3 h4 => hf k (by omega)⟩
set_option maxRecDepth 20000 in
set_option maxHeartbeats 1000000 in
theorem lw_restore {G : q_G} {s : s_T} {z : z_T} (hz : z_wf z) (hZ : c_Z z s) : s_W G mL_restore 9 2 12 (w_Pv (A_restore z) s) 0 (q_ent mL_restore [.ref 0]) [] s := by
  show s_W G mL_restore 9 2 12 _ 0 [some (.ref 0), none] [] s
  refine r_aload_n dL_restore_0 rfl rfl ?_
  refine s_callV mX11_restore [] dL_restore_1 okX11_restore lL_111 npX11_restore lysX11 rfl (by decide) (by decide) (by decide) (Nat.le_of_ble_eq_true rfl) (Nat.le_of_ble_eq_true rfl) rfl (c_restore hz hZ) (fun v s1 hq => ?_) (fun E s1 hq => ?_)
  · obtain ⟨h1, h2, hZ1, hf⟩ := hq
    obtain ⟨a0, ev⟩ := w_il h1 h2 rfl
    cases ev
    refine r_goto (tgt := 10) dL_restore_4 (by decide) ?_
    refine n_const 0 dL_restore_10 (by decide) ?_
    refine s_iret dL_restore_11 rfl rfl ?_
    exact ⟨_, rfl, by rw [a0], by omega, hZ1, fun k h3 h4 => hf k (by omega)⟩
  · obtain ⟨h1, h2, hZ1, hf⟩ := hq
    obtain ⟨a0, ev⟩ := w_ir h1 h2 rfl
    rcases w_e1 a0 ev with ⟨ea, rfl⟩
    refine x_catch (z := 1) [] ⟨0, 4, 7, 15⟩ [] rfl (fun z9 hz9 => by cases hz9) (by decide) (by decide) lwc_15 lwe_15 (i := 1) (by decide) rfl (Or.inr ⟨dL_restore_7, rfl, rfl⟩) ?_
    refine n_const 1 dL_restore_8 (by decide) ?_
    refine s_iret dL_restore_9 rfl rfl ?_
    exact ⟨_, rfl, by rw [ea], by omega, hZ1, fun k h3 h4 => hf k (by omega)⟩
