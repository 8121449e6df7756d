/-! ===== contracts out of the judgement, calls, throws ===== -/
def q_rm (d C S : Nat) : Room := { frames := d, cells := C, slots := S, locals := 60 * d + 60 }
def q_AA (ad : Nat → Nat) (n sz : Nat) : Nat → Prop := fun q => (∃ k, k < n ∧ q = ad k) ∨ sz ≤ q
def q_ws (M : q_M) : List Cond := q_cd M :: q_tw
def q_sl (As : List Value) : List (Option Value) := As.flatMap fun v => if v.category = 2 then [some v, none] else [some v]
def q_ent (M : q_M) (As : List Value) : List (Option Value) := q_sl As ++ List.replicate (M.2.2.2.1 - (q_sl As).length) none
def q_Mok (M : q_M) : Prop := plainName M.2.1.cls = true ∧ (M.2.1.cls ≠ "java/lang/invoke/MethodHandle" ∧ M.2.1.cls ≠ "java/lang/invoke/VarHandle") ∧ q_cd M ∈ q_tw ∧ Cond.initialized M.2.1.cls ∈ q_tw ∧ M.1 = M.2.1.cls ∧ M.2.2.2.1 ≤ 40
def q_Pc (G : q_G) (ad : Nat → Nat) (n : Nat) (h : q_H) (As : List Value) (sz : Nat) : Array Value → State → Prop := fun v U =>
  v = (As.map (q_v ad)).toArray ∧ U.heap.size = sz ∧ va_P G.1 vwCl (q_w G.2.1 ad n h) U.heap ∧ va_D (q_AA ad n sz) (q_w G.2.1 ad n h) ∧ va_K G.1 vwCl (q_ty G.2.1) U ∧ q_X G.2.2.1 G.2.2.2 (ad 1000000) (ad 1000001) (q_AA ad n sz) U U.heap
theorem q_sl_len {ad : Nat → Nat} : ∀ As : List Value, (lg_sl (As.map (q_v ad))).length = (q_sl As).length
  | [] => rfl
  | v :: As => by
    have ih := q_sl_len (ad := ad) As
    unfold lg_sl q_sl at ih ⊢
    simp only [List.map_cons, List.flatMap_cons, List.length_append, q_v_cat, ih]
    split <;> rfl
theorem q_sl_args {ad : Nat → Nat} : ∀ (As : List Value) (off i : Nat) (v : Value), (q_sl As)[i]? = some (some v) → (off + i, q_v ad v) ∈ lv_args off (As.map (q_v ad))
  | [], off, i, v, h => by simp [q_sl] at h
  | a :: As, off, i, v, h => by
    have e : q_sl (a :: As) = (if a.category = 2 then [some a, none] else [some a]) ++ q_sl As := by simp [q_sl]
    rw [e] at h
    show _ ∈ (off, q_v ad a) :: lv_args (if (q_v ad a).category = 2 then off + 2 else off + 1) (As.map (q_v ad))
    rw [q_v_cat]
    by_cases hc : a.category = 2
    · rw [if_pos hc] at h ⊢
      match i, h with
      | 0, h => cases h; exact List.mem_cons_self
      | 1, h => cases h
      | i + 2, h =>
        have h2 : (q_sl As)[i]? = some (some v) := h
        have := q_sl_args (ad := ad) As (off + 2) i v h2
        rw [show off + (i + 2) = off + 2 + i by omega]
        exact List.mem_cons_of_mem _ this
    · rw [if_neg hc] at h ⊢
      match i, h with
      | 0, h => cases h; exact List.mem_cons_self
      | i + 1, h =>
        have h2 : (q_sl As)[i]? = some (some v) := h
        have := q_sl_args (ad := ad) As (off + 1) i v h2
        rw [show off + (i + 1) = off + 1 + i by omega]
        exact List.mem_cons_of_mem _ this
theorem q_ent_at {M : q_M} {As : List Value} {i : Nat} {v : Value} (h : (q_ent M As)[i]? = some (some v)) : (q_sl As)[i]? = some (some v) := by
  unfold q_ent at h
  by_cases hi : i < (q_sl As).length
  · rw [List.getElem?_append_left hi] at h
    exact h
  · rw [List.getElem?_append_right (by omega), List.getElem?_replicate] at h
    split at h <;> cases h
theorem q_sl_mem : ∀ (As : List Value) (i : Nat) (v : Value), (q_sl As)[i]? = some (some v) → v ∈ As
  | [], i, v, h => by simp [q_sl] at h
  | a :: As, i, v, h => by
    have h1 : some v ∈ q_sl (a :: As) := List.mem_of_getElem? h
    unfold q_sl at h1
    rw [List.mem_flatMap] at h1
    obtain ⟨w, hw, hv⟩ := h1
    split at hv <;> simp at hv <;> subst hv <;> exact hw
/-- a contract -/
theorem q_met {G : q_G} {M : q_M} {d C S : Nat} {Post : q_R → Nat → q_H → Prop} {n : Nat} {h : q_H} {As : List Value} (hM : q_Mok M) (hA : (q_sl As).length ≤ M.2.2.2.1) (hos : q_os n As) (K : q_W G M d C S Post 0 (q_ent M As) [] n h) (hok : ∀ k, k < n → q_ok n (h k)) (h9 : n ≤ 900000) (l : Launch) (hst : l.stackTraces = false) (ad : Nat → Nat) (sz : Nat) :
    vx_Met l M.2.1 (q_ws M) (q_rm d C S) (q_Pc G ad n h As sz) (q_Qc G ad n Post (q_AA ad n sz)) (q_XC G ad n Post (q_AA ad n sz)) C S (q_AA ad n sz) := by
  obtain ⟨m1, m2, m3, m4, m5, m6⟩ := hM
  have body : ∀ (p : Program) (e : Env) (s : State) (m : MethodId) (args : Array Value) (below : List Frame) (meth : Method) (c : Code) (s₁ : State), BodyLoose p l M.2.1 (headSpec (q_ws M) (q_rm d C S)) M.2.2.1 M.2.2.2.1 M.2.2.2.2.1 e s m args below meth c s₁ → c.maxLocals = M.2.2.2.1 → c.exceptionTable.toList = tableOf M.2.2.2.2.2 → q_Pc G ad n h As sz args s →
      W p l e (headSpec (q_ws M) (q_rm d C S)).room s m args below meth c s.heap [] 0 0 (vx_MQ below (q_Qc G ad n Post (q_AA ad n sz)) (q_XC G ad n Post (q_AA ad n sz)) args s C S (q_AA ad n sz)) (entryFrame m args M.2.2.2.1) := by
    intro p e s m args below meth c s₁ B hml htb hp
    obtain ⟨rfl, hsz, hP, hD, hK, hX⟩ := hp
    have hts : ∀ w ∈ q_tw, w.before (As.map (q_v ad)).toArray s = true := fun w hw => atoms_spec (ws := q_ws M) B.pre w (List.mem_cons_of_mem _ hw)
    have hown : s.vm.findClass M.1 = some m.cls := by rw [m5]; exact findClass_of_methodNamed B.named
    have hin : meth.name = M.2.1.name := (name_of_methodNamed B.named B.method).1
    have hlen : (lg_sl (As.map (q_v ad))).length ≤ M.2.2.2.1 := by rw [q_sl_len]; exact hA
    have hl := lv_entry (As.map (q_v ad)) (n := M.2.2.2.1) hlen
    rw [lg_entry_eq]
    generalize (lg_sl (As.map (q_v ad)) ++ List.replicate (M.2.2.2.1 - (lg_sl (As.map (q_v ad))).length) Slot.unset).toArray = ls at hl ⊢
    obtain ⟨l1, l2, l3⟩ := hl
    refine K p l e (q_rm d C S) s m _ below meth c s.heap [] 0 0 ls (q_AA ad n sz) ad ad n ⟨B.exec, B.bytes, hml, B.returns, B.notSynchronized, hin, htb, hown, hts, hK, hst, ⟨Nat.le_refl _, Nat.le_refl _⟩, fun q hq => Or.inr (by omega), hX⟩ ⟨hP, hD, va_S.rf, hok, h9⟩ ⟨Nat.le_refl _, fun _ _ => rfl⟩ ⟨by show 0 + C ≤ C; omega, by show 0 + S ≤ S; omega⟩ ⟨l1, l2, fun i v hi => ?_⟩ (fun v hv => by cases hv) (fun i v hi => hos v (q_sl_mem _ _ _ (q_ent_at hi)))
    have h1 := q_sl_args (ad := ad) As 0 i v (q_ent_at hi)
    rw [Nat.zero_add] at h1
    exact l3 _ h1
  cases hh : M.2.2.2.2.2 with
  | nil =>
    refine vx_ofW (cc := M.2.2.1) (maxL := M.2.2.2.1) (ret := M.2.2.2.2.1) (ws' := q_tw) m1 (by unfold q_ws q_cd; rw [hh]) ?_
    intro p e s m args below meth c s₁ B hml ht hp
    refine body p e s m args below meth c s₁ B hml ?_ hp
    rw [hh]
    exact List.eq_nil_iff_forall_not_mem.mpr (fun x hx => ht x hx)
  | cons z zs =>
    have e1 : q_cd M = .codeWith M.2.1 M.2.2.1 M.2.2.2.1 M.2.2.2.2.1 (z :: zs) := by unfold q_cd; rw [hh]
    refine vx_ofWH (cc := M.2.2.1) (maxL := M.2.2.2.1) (ret := M.2.2.2.2.1) (hh := z :: zs) (ws' := q_tw) m1 (by unfold q_ws; rw [e1]) ?_
    intro p e s m args below meth c s₁ B hml hp
    refine body p e s m args below meth c s₁ B hml ?_ hp
    rw [hh]
    exact vx_table (x := M.2.1) B (atoms_spec (ws := q_ws M) B.pre _ (by rw [← e1]; exact List.mem_cons_self))
theorem q_blind {G : q_G} {ad : Nat → Nat} {n : Nat} {h : q_H} {As : List Value} {sz : Nat} : FrameBlind (q_Pc G ad n h As sz) := by
  intro a U g mk q
  obtain ⟨q0, q1, q2, q3, q4, q5⟩ := q
  exact ⟨q0, q1, q2, q3, va_K.moved (u := U) (U := U.calling g mk a) (Vm.Alike.refl U.vm) q4, q_X_move (U := U.calling g mk a) q5 va_S.rf (State.WarmedH.refl U) (fun _ q => q)⟩
section QR4
variable {p : Program} {l : Launch} {e : Env} {R : Room} {s : State} {m : MethodId} {args : Array Value} {below : List Frame} {meth : Method} {c : Code} {H : Heap} {locs : List Loc} {cells slots : Nat} {ls : Array Slot} {A : Nat → Prop} {ad ad0 : Nat → Nat} {n0 : Nat}
variable {G : q_G} {M : q_M} {d C S : Nat} {Post : q_R → Nat → q_H → Prop} {pc : Nat} {L : List (Option Value)} {st : List Value} {n : Nat} {h : q_H}
theorem q_sub (hF : q_F G M d p l R s m args meth c A (ad 1000000) (ad 1000001)) (hS : q_S G ad n h A s.heap H locs) : ∀ q, q_AA ad n H.size q → A q := fun q hq => hq.elim (fun ⟨k, hk, e⟩ => by rw [e]; exact hS.2.1.2 k _ (q_w_at hk)) (fun hz => hF.2.2.2.2.2.2.2.2.2.2.2.2.1 q (Nat.le_trans hS.2.2.1.1 hz))
/-- the callee's start at a call -/
theorem q_pre {As : List Value} (hF : q_F G M d p l R s m args meth c A (ad 1000000) (ad 1000001)) (hS : q_S G ad n h A s.heap H locs) : ∀ U : State, U.heap = H → s.WarmedH U.vm → q_Pc G ad n h As H.size (As.map (q_v ad)).toArray U := by
  intro U hU hW
  subst hU
  exact ⟨rfl, rfl, hS.1, ⟨hS.2.1.1, fun k q hq => by
    obtain ⟨hk, e1⟩ := q_w_inv hq
    exact Or.inl ⟨k, hk, by rw [e1]⟩⟩, va_K.moved hW.alike hF.2.2.2.2.2.2.2.2.2.1, q_X_move hF.2.2.2.2.2.2.2.2.2.2.2.2.2 hS.2.2.1 hW (q_sub hF hS)⟩
/-- behind a call -/
theorem q_after {C' S' : Nat} {Post' : q_R → Nat → q_H → Prop} {st0 : List Value} {aa : Array Value} (hr : vx_Run p l e R s m args below meth c H locs cells slots C' S' (F0 m pc ls st0) (st.map (q_v ad)) (q_Qc G ad n Post' (q_AA ad n H.size) aa) (q_XC G ad n Post' (q_AA ad n H.size)) (q_AA ad n H.size))
    (hF : q_F G M d p l R s m args meth c A (ad 1000000) (ad 1000001)) (hS : q_S G ad n h A s.heap H locs) (hn : n0 ≤ n ∧ ∀ k, k < n0 ∨ 1000000 ≤ k → ad k = ad0 k) (hc : cells + C ≤ R.cells ∧ slots + S ≤ R.slots) (hl : q_L ad M.2.2.2.1 ls L) (hst : q_os n st) (hL : q_oL n L) (hC : C' ≤ C) (hS2 : S' ≤ S)
    (K2 : ∀ (v : Option Value) (n' : Nat) (h' : q_H), Post' (.inl v) n' h' → n ≤ n' → q_W G M d (C - C') (S - S') Post (pc + 3) L (v.toList ++ st) n' h')
    (K3 : ∀ (E : String) (n' : Nat) (h' : q_H), Post' (.inr E) n' h' → n ≤ n' → q_WX G M d (C - C') (S - S') Post pc L n' h' E) :
    W p l e R s m args below meth c H locs cells slots (vx_MQ below (q_Qc G ad0 n0 Post A) (q_XC G ad0 n0 Post A) args s R.cells R.slots A) (F0 m pc ls st0) := by
  intro T hT X
  have hAA := q_sub hF hS
  rcases hr T hT X with ⟨v', st₀, t, T', LL, h0, X', hL', e1, e2, ⟨v, n1, h1, ad1, ho, hp, hv, k1, k2, k3, k4, k5, k6, k7⟩, stp⟩ | ⟨q9, st₀, t, T', LL, E, ce, h0, X', hL', e1, e2, ⟨n1, h1, ad1, hp, k1, k2, k3, k4, k5, k6, k7⟩, hce, hcv, hcl, stp⟩
  · obtain ⟨z1, z2, z3⟩ := vx_keep h0 e1 hS.2.2.1 (fun q _ hq => hAA q hq) hAA hL' k7
    have hF1 : q_F G M d p l R s m args meth c A (ad1 1000000) (ad1 1000001) := by rw [k2 1000000 (Or.inr (Nat.le_refl _)), k2 1000001 (Or.inr (Nat.le_of_ble_eq_true rfl))]; exact hF
    have ea : ∀ k, k < n ∨ 1000000 ≤ k → ad1 k = ad k := k2
    obtain ⟨t2, a1, b1⟩ := K2 v n1 h1 hp k1 p l e R s m args below meth c T'.heap (locs ++ LL) (cells + C') (slots + S') ls A ad1 ad0 n0 hF1 ⟨by rw [e1]; exact k3, k4.weaken (fun _ _ _ q => hAA _ q), z3, k5, k6⟩ ⟨Nat.le_trans hn.1 k1, fun k hk => (k2 k (hk.imp (fun q => Nat.lt_of_lt_of_le q hn.1) id)).trans (hn.2 k hk)⟩ ⟨by omega, by omega⟩ (q_L_congr hL hl ea)
      (fun w hw => (List.mem_append.mp hw).elim (fun q => hv w (by cases v with
        | none => cases q
        | some x => have q : w ∈ [x] := q; rw [List.mem_singleton] at q; rw [q])) (fun q => q_ov_mono k1 (hst w q))) (q_oL_mono k1 hL) T' rfl X'
    refine ⟨t2, stp t2 ?_, b1⟩
    cases ho
    have e3 : (v.toList ++ st).map (q_v ad1) = (v.map (q_v ad1)).toList ++ st.map (q_v ad) := by
      rw [List.map_append, q_st_congr hst ea]
      cases v <;> rfl
    rw [e3] at a1
    exact a1
  · obtain ⟨z1, z2, z3⟩ := vx_keep h0 e1 hS.2.2.1 (fun q _ hq => hAA q hq) hAA hL' k7
    have hF1 : q_F G M d p l R s m args meth c A (ad1 1000000) (ad1 1000001) := by rw [k2 1000000 (Or.inr (Nat.le_refl _)), k2 1000001 (Or.inr (Nat.le_of_ble_eq_true rfl))]; exact hF
    have ea : ∀ k, k < n ∨ 1000000 ≤ k → ad1 k = ad k := k2
    obtain ⟨t2, a1, b1⟩ := K3 E n1 h1 hp k1 p l e R s m args below meth c T'.heap (locs ++ LL) (cells + C') (slots + S') ls A ad1 ad0 n0 (st.map (q_v ad)) q9 ce hF1 ⟨by rw [e1]; exact k3, k4.weaken (fun _ _ _ q => hAA _ q), z3, k5, k6⟩ ⟨Nat.le_trans hn.1 k1, fun k hk => (k2 k (hk.imp (fun q => Nat.lt_of_lt_of_le q hn.1) id)).trans (hn.2 k hk)⟩ ⟨by omega, by omega⟩ (q_L_congr hL hl ea) (q_oL_mono k1 hL) (by rw [e1]; exact hce) hcv hcl T' rfl X'
    exact ⟨t2, stp.trans a1, b1⟩
end QR4
