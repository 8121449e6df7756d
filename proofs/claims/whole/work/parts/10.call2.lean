/-! ===== the five calls ===== -/
def q_np (M : q_M) (k : Nat) : Prop := (parseMethodDescriptor M.2.1.desc).map (fun d => d.parameters.length) = some k
/-- the callee by the pool's entry idx of the class own -/
def q_lV (own : String) (idx : Nat) (M : q_M) : Prop := Cond.methodLink own idx M.2.1 ∈ q_tw ∧ Cond.instanceMethod M.2.1 ∈ q_tw ∧ Cond.selects M.2.1.cls M.2.1 M.2.1 ∈ q_tw ∧ M.2.2.2.2.2 = []
def q_lS (own : String) (idx : Nat) (M : q_M) : Prop := Cond.methodLink own idx M.2.1 ∈ q_tw ∧ Cond.static M.2.1 ∈ q_tw
def q_lI (own : String) (idx : Nat) (M : q_M) : Prop := Cond.methodLink own idx M.2.1 ∈ q_tw ∧ Cond.instanceMethod M.2.1 ∈ q_tw ∧ M.2.1.name = "<init>" ∧ M.2.2.2.2.2 = [] ∧ M.2.2.2.2.1 = none
def q_lSN (own : String) (idx : Nat) (M : q_M) : Prop := (∃ host, Cond.methodLinkNest own idx M.2.1 host ∈ q_ew) ∧ Cond.static M.2.1 ∈ q_tw ∧ M.2.2.2.2.2 = []
def q_lIN (own : String) (idx : Nat) (M : q_M) : Prop := (∃ host, Cond.methodLinkNest own idx M.2.1 host ∈ q_ew) ∧ Cond.instanceMethod M.2.1 ∈ q_tw ∧ M.2.1.name = "<init>" ∧ M.2.2.2.2.2 = [] ∧ M.2.2.2.2.1 = none
theorem q_cd_nil {M : q_M} (h : M.2.2.2.2.2 = []) : q_cd M = .code M.2.1 M.2.2.1 M.2.2.2.1 M.2.2.2.2.1 := by unfold q_cd; rw [h]
theorem q_ws_good {M : q_M} (hM : q_Mok M) : GoodIn q_tw (q_ws M) := q_goodIn fun w hw => (List.mem_cons.mp hw).elim (fun e => e ▸ hM.2.2.1) id
/-- a callee that never throws -/
theorem q_noX {l : Launch} {y : MethodName} {ws : List Cond} {rm : Room} {Pc : Array Value → State → Prop} {Qc : Array Value → State → Outcome → State → Prop} {XC : String → State → State → Prop} {mc ms : Nat} {free : Addr → Prop} (hX : ∀ E st t, ¬ XC E st t) (hM : vx_Met l y ws rm Pc Qc XC mc ms free) : Met l y ws rm Pc Qc mc ms free := by
  intro p e a1 a2 a3 s m args below a4 a5 a6 a7
  obtain ⟨k, o, b1, b2, b3, b4⟩ := hM p e a1 a2 a3 s m args below a4 a5 a6 a7
  refine ⟨k, o, b1, b2, b3, ?_⟩
  rcases b4 with h | ⟨q, -, E, ce, LL, hx, -⟩
  · exact h
  · exact absurd hx (hX _ _ _)
theorem q_runX {p : Program} {l : Launch} {e : Env} {R : Room} {s : State} {m : MethodId} {args : Array Value} {below : List Frame} {meth : Method} {c : Code} {H : Heap} {locs : List Loc} {cells slots mc ms : Nat} {g : JFrame} {rest : List Value} {Qa : State → Outcome → State → Prop} {XC : String → State → State → Prop} {free : Addr → Prop} (h : va_Run p l e R s m args below meth c H locs cells slots mc ms g rest Qa free) : vx_Run p l e R s m args below meth c H locs cells slots mc ms g rest Qa XC free := fun T hT X => Or.inl (h T hT X)
theorem q_cats {ad : Nat → Nat} {st : List Value} : ((st.map (q_v ad)).map fun v => v.category).sum = (st.map fun v => v.category).sum := by
  rw [List.map_map]
  exact congrArg List.sum (List.map_congr_left fun v _ => q_v_cat)
theorem q_os_rev {n : Nat} {As st : List Value} (h : q_os n (As.reverse ++ st)) : q_os n As ∧ q_os n st := ⟨fun v hv => h v (List.mem_append_left _ (List.mem_reverse.mpr hv)), fun v hv => h v (List.mem_append_right _ hv)⟩
section QR5
variable {G : q_G} {M : q_M} {d C S : Nat} {Post : q_R → Nat → q_H → Prop} {pc : Nat} {L : List (Option Value)} {st stk : List Value} {n : Nat} {h : q_H}
theorem r_callV (M' : q_M) {d' C' S' : Nat} {Post' : q_R → Nat → q_H → Prop} (As : List Value) {k ci idx N : Nat} {T : u_T} {fs : List Value} (dc : decode M.2.2.1 pc = .ok (.invokevirtual idx, 3)) (hMo : q_Mok M') (hlk : q_lV M.1 idx M') (hnp : q_np M' As.length) (hk : k < n) (hh : h k = .inr (ci, fs)) (hci : vwCl[ci]? = some (M'.1, T, N)) (hd : d' + 1 ≤ d) (hC : C' ≤ C) (hS2 : S' ≤ S) (hr : (st.map fun v => v.category).sum ≤ 8) (hA : (q_sl (.ref k :: As)).length ≤ M'.2.2.2.1) (hstk : stk = As.reverse ++ .ref k :: st)
    (K1 : q_W G M' d' C' S' Post' 0 (q_ent M' (.ref k :: As)) [] n h)
    (K2 : ∀ (v : Option Value) (n' : Nat) (h' : q_H), Post' (.inl v) n' h' → n ≤ n' → q_W G M d (C - C') (S - S') Post (pc + 3) L (v.toList ++ st) n' h')
    (K3 : ∀ (E : String) (n' : Nat) (h' : q_H), Post' (.inr E) n' h' → n ≤ n' → q_WX G M d (C - C') (S - S') Post pc L n' h' E) : q_W G M d C S Post pc L stk n h := by
  subst hstk
  intro p l e R s m args below meth c H locs cells slots ls A ad ad0 n0 hF hS hn hc hl hst hL
  obtain ⟨w1, w2, w3, w4⟩ := hlk
  obtain ⟨o1, o2⟩ := q_os_rev hst
  have hts := hF.2.2.2.2.2.2.2.2.1
  have hR := hF.2.2.2.2.2.2.2.2.2.2.2.1
  have hmx := hMo.2.2.2.2.2
  have hMM := q_met hMo hA (q_os_c (q_os_h o2) o1) K1 hS.2.2.2.1 hS.2.2.2.2 l hF.2.2.2.2.2.2.2.2.2.2.1 ad H.size
  have hG : GoodIn q_tw (wsV M.1 idx M'.2.1.cls M'.2.1 (q_ws M')) := q_goodIn fun w hw => by
    rcases List.mem_append.mp hw with q | q
    · simp only [List.mem_cons, List.not_mem_nil, or_false] at q
      rcases q with rfl | rfl | rfl | rfl
      · exact w1
      · exact w2
      · exact w3
      · exact hMo.2.2.2.1
    · exact (q_ws_good hMo w q).1
  refine q_after (st := st) (aa := (Value.ref (ad k) :: As.map (q_v ad)).toArray) (vx_runV (As := As.map (q_v ad)) (b := ad k) (C := M'.2.1.cls) (rest := st.map (q_v ad)) (bytes := M'.2.2.1) (maxL := M'.2.2.2.1) (ret := M'.2.2.2.2.1) (n := As.length) ⟨hF.1, hF.2.1, hF.2.2.1, hF.2.2.2.2.2.2.2.1, hts⟩ hMM
    (cwV (ws' := q_tw) As.length hts hG (by unfold q_ws; rw [q_cd_nil w4]) rfl rfl ⟨rfl, hMo.2.1.1, hMo.2.1.2, hnp⟩ ⟨by show d' + 1 ≤ R.frames; omega, by show 8 + (M'.2.2.2.1 + 11) + (60 * d' + 60) ≤ R.locals; omega⟩) ⟨q_blind, ?_, q_pre (As := .ref k :: As) hF hS⟩ rfl (by rw [List.length_map]) hl.1 ?_ ?_ dc ⟨by omega, by omega⟩) hF hS hn hc hl (q_os_t o2) hL hC hS2 K2 K3
  · have h1 := va_recv hF.2.2.2.2.2.2.2.2.2.1 hS.1 hci (q_w_o hk hh)
    rw [hMo.2.2.2.2.1] at h1
    exact h1
  · show (As.reverse ++ .ref k :: st).map (q_v ad) = _
    rw [List.map_append, List.map_reverse]
    rfl
  · show 2 * 0 + ((st.map (q_v ad)).map fun v => v.category).sum ≤ 8
    rw [q_cats]
    omega
theorem r_callS (M' : q_M) {d' C' S' : Nat} {Post' : q_R → Nat → q_H → Prop} (As : List Value) {idx : Nat} (dc : decode M.2.2.1 pc = .ok (.invokestatic idx, 3)) (hMo : q_Mok M') (hlk : q_lS M.1 idx M') (hnp : q_np M' As.length) (hd : d' + 1 ≤ d) (hC : C' ≤ C) (hS2 : S' ≤ S) (hr : (st.map fun v => v.category).sum ≤ 8) (hA : (q_sl As).length ≤ M'.2.2.2.1) (hstk : stk = As.reverse ++ st)
    (K1 : q_W G M' d' C' S' Post' 0 (q_ent M' As) [] n h)
    (K2 : ∀ (v : Option Value) (n' : Nat) (h' : q_H), Post' (.inl v) n' h' → n ≤ n' → q_W G M d (C - C') (S - S') Post (pc + 3) L (v.toList ++ st) n' h')
    (K3 : ∀ (E : String) (n' : Nat) (h' : q_H), Post' (.inr E) n' h' → n ≤ n' → q_WX G M d (C - C') (S - S') Post pc L n' h' E) : q_W G M d C S Post pc L stk n h := by
  subst hstk
  intro p l e R s m args below meth c H locs cells slots ls A ad ad0 n0 hF hS hn hc hl hst hL
  obtain ⟨w1, w2⟩ := hlk
  obtain ⟨o1, o2⟩ := q_os_rev hst
  have hts := hF.2.2.2.2.2.2.2.2.1
  have hR := hF.2.2.2.2.2.2.2.2.2.2.2.1
  have hmx := hMo.2.2.2.2.2
  have hMM := q_met hMo hA o1 K1 hS.2.2.2.1 hS.2.2.2.2 l hF.2.2.2.2.2.2.2.2.2.2.1 ad H.size
  have hG : GoodIn q_tw (va_wsS M.1 idx M'.2.1 (q_ws M')) := q_goodIn fun w hw => by
    rcases List.mem_append.mp hw with q | q
    · simp only [List.mem_cons, List.not_mem_nil, or_false] at q
      rcases q with rfl | rfl | rfl
      · exact w1
      · exact w2
      · exact hMo.2.2.2.1
    · exact (q_ws_good hMo w q).1
  have hstk : (As.reverse ++ st).map (q_v ad) = (As.map (q_v ad)).reverse ++ st.map (q_v ad) := by rw [List.map_append, List.map_reverse]
  have hroom : 2 * 0 + ((st.map (q_v ad)).map fun v => v.category).sum ≤ 8 := by rw [q_cats]; omega
  have hRm : d' + 1 ≤ R.frames ∧ 8 + (M'.2.2.2.1 + 11) + (60 * d' + 60) ≤ R.locals := ⟨by omega, by omega⟩
  cases hh : M'.2.2.2.2.2 with
  | nil =>
    exact q_after (st := st) (aa := (As.map (q_v ad)).toArray) (vx_runS (As := As.map (q_v ad)) (rest := st.map (q_v ad)) (bytes := M'.2.2.1) (maxL := M'.2.2.2.1) (ret := M'.2.2.2.2.1) (n := As.length) ⟨hF.1, hF.2.1, hF.2.2.1, hF.2.2.2.2.2.2.2.1, hts⟩ hMM
      (va_cwS (ws' := q_tw) As.length hts hG (by unfold q_ws; rw [q_cd_nil hh]) rfl rfl ⟨hMo.2.1.1, hMo.2.1.2, hnp⟩ hRm) ⟨q_blind, q_pre (As := As) hF hS⟩ rfl (by rw [List.length_map]) hl.1 hstk hroom dc ⟨by omega, by omega⟩) hF hS hn hc hl o2 hL hC hS2 K2 K3
  | cons z zs =>
    exact q_after (st := st) (aa := (As.map (q_v ad)).toArray) (vx_runSX (As := As.map (q_v ad)) (rest := st.map (q_v ad)) (bytes := M'.2.2.1) (maxL := M'.2.2.2.1) (ret := M'.2.2.2.2.1) (hh := z :: zs) (n := As.length) ⟨hF.1, hF.2.1, hF.2.2.1, hF.2.2.2.2.2.2.2.1, hts⟩ hMM
      (vx_cwSW (ws' := q_tw) As.length hts hG (by unfold q_ws q_cd; rw [hh]) rfl rfl ⟨hMo.2.1.1, hMo.2.1.2, hnp⟩ hRm) ⟨q_blind, q_pre (As := As) hF hS⟩ rfl (by rw [List.length_map]) hl.1 hstk hroom dc ⟨by omega, by omega⟩) hF hS hn hc hl o2 hL hC hS2 K2 K3
theorem r_callSN (M' : q_M) {d' C' S' : Nat} {Post' : q_R → Nat → q_H → Prop} (As : List Value) {idx : Nat} (dc : decode M.2.2.1 pc = .ok (.invokestatic idx, 3)) (hMo : q_Mok M') (hlk : q_lSN M.1 idx M') (hnp : q_np M' As.length) (hd : d' + 1 ≤ d) (hC : C' ≤ C) (hS2 : S' ≤ S) (hr : (st.map fun v => v.category).sum ≤ 8) (hA : (q_sl As).length ≤ M'.2.2.2.1) (hstk : stk = As.reverse ++ st)
    (K1 : q_W G M' d' C' S' Post' 0 (q_ent M' As) [] n h)
    (K2 : ∀ (v : Option Value) (n' : Nat) (h' : q_H), Post' (.inl v) n' h' → n ≤ n' → q_W G M d (C - C') (S - S') Post (pc + 3) L (v.toList ++ st) n' h')
    (K3 : ∀ (E : String) (n' : Nat) (h' : q_H), ¬ Post' (.inr E) n' h') : q_W G M d C S Post pc L stk n h := by
  subst hstk
  intro p l e R s m args below meth c H locs cells slots ls A ad ad0 n0 hF hS hn hc hl hst hL
  obtain ⟨⟨host, w1⟩, w2, w3⟩ := hlk
  obtain ⟨o1, o2⟩ := q_os_rev hst
  have hts := hF.2.2.2.2.2.2.2.2.1
  have hR := hF.2.2.2.2.2.2.2.2.2.2.2.1
  have hmx := hMo.2.2.2.2.2
  have hMM := q_noX (fun E st t q => by obtain ⟨n1, h1, ad1, hp, -⟩ := q; exact K3 _ _ _ hp) (q_met hMo hA o1 K1 hS.2.2.2.1 hS.2.2.2.2 l hF.2.2.2.2.2.2.2.2.2.2.1 ad H.size)
  have hstk : (As.reverse ++ st).map (q_v ad) = (As.map (q_v ad)).reverse ++ st.map (q_v ad) := by rw [List.map_append, List.map_reverse]
  have hroom : 2 * 0 + ((st.map (q_v ad)).map fun v => v.category).sum ≤ 8 := by rw [q_cats]; omega
  exact q_after (st := st) (aa := (As.map (q_v ad)).toArray) (q_runX (va_runSN (As := As.map (q_v ad)) (rest := st.map (q_v ad)) (bytes := M'.2.2.1) (maxL := M'.2.2.2.1) (ret := M'.2.2.2.2.1) (n := As.length) ⟨hF.1, hF.2.1, hF.2.2.1, hF.2.2.2.2.2.2.2.1, hts⟩ hMM
    ⟨va_cnB (ws' := q_tw) As.length hts (q_ws_good hMo) (by unfold q_ws; rw [q_cd_nil w3]) rfl rfl (hF.2.2.2.2.2.2.2.2.2.2.2.2.2.2.2.2.1 _ w1) (hts _ hMo.2.2.2.1) ⟨hMo.2.1.1, hMo.2.1.2, hnp⟩ ⟨by show d' + 1 ≤ R.frames; omega, by show 8 + (M'.2.2.2.1 + 11) + (60 * d' + 60) ≤ R.locals; omega⟩, hts _ w2, trivial⟩ ⟨q_blind, q_pre (As := As) hF hS⟩ rfl (by rw [List.length_map]) hl.1 hstk hroom dc ⟨by omega, by omega⟩)) hF hS hn hc hl o2 hL hC hS2 K2 (fun E n' h' hp _ => absurd hp (K3 E n' h'))
theorem r_callI (M' : q_M) {d' C' S' : Nat} {Post' : q_R → Nat → q_H → Prop} (As : List Value) {k idx : Nat} (dc : decode M.2.2.1 pc = .ok (.invokespecial idx, 3)) (hMo : q_Mok M') (hlk : q_lI M.1 idx M' ∨ q_lIN M.1 idx M') (hnp : q_np M' As.length) (hd : d' + 1 ≤ d) (hC : C' ≤ C) (hS2 : S' ≤ S) (hr : (st.map fun v => v.category).sum ≤ 8) (hA : (q_sl (.ref k :: As)).length ≤ M'.2.2.2.1) (hstk : stk = As.reverse ++ .ref k :: st)
    (K1 : q_W G M' d' C' S' Post' 0 (q_ent M' (.ref k :: As)) [] n h)
    (K2 : ∀ (v : Option Value) (n' : Nat) (h' : q_H), Post' (.inl v) n' h' → n ≤ n' → q_W G M d (C - C') (S - S') Post (pc + 3) L (v.toList ++ st) n' h')
    (K3 : ∀ (E : String) (n' : Nat) (h' : q_H), ¬ Post' (.inr E) n' h') : q_W G M d C S Post pc L stk n h := by
  subst hstk
  intro p l e R s m args below meth c H locs cells slots ls A ad ad0 n0 hF hS hn hc hl hst hL
  obtain ⟨o1, o2⟩ := q_os_rev hst
  have hts := hF.2.2.2.2.2.2.2.2.1
  have hR := hF.2.2.2.2.2.2.2.2.2.2.2.1
  have hmx := hMo.2.2.2.2.2
  have hMM := q_noX (fun E st t q => by obtain ⟨n1, h1, ad1, hp, -⟩ := q; exact K3 _ _ _ hp) (q_met hMo hA (q_os_c (q_os_h o2) o1) K1 hS.2.2.2.1 hS.2.2.2.2 l hF.2.2.2.2.2.2.2.2.2.2.1 ad H.size)
  have hstk : (As.reverse ++ .ref k :: st).map (q_v ad) = (As.map (q_v ad)).reverse ++ .ref (ad k) :: st.map (q_v ad) := by rw [List.map_append, List.map_reverse]; rfl
  have hroom : 2 * 0 + ((st.map (q_v ad)).map fun v => v.category).sum ≤ 8 := by rw [q_cats]; omega
  have hRm : d' + 1 ≤ R.frames ∧ 8 + (M'.2.2.2.1 + 11) + (60 * d' + 60) ≤ R.locals := ⟨by omega, by omega⟩
  rcases hlk with ⟨w1, w2, w3, w4, w5⟩ | ⟨⟨host, w1⟩, w2, w3, w4, w5⟩
  · exact q_after (st := st) (aa := (Value.ref (ad k) :: As.map (q_v ad)).toArray) (q_runX (va_runI (As := As.map (q_v ad)) (b := ad k) (rest := st.map (q_v ad)) (bytes := M'.2.2.1) (maxL := M'.2.2.2.1) (n := As.length) ⟨hF.1, hF.2.1, hF.2.2.1, hF.2.2.2.2.2.2.2.1, hts⟩ hMM
      (cwI (ws' := q_tw) As.length hts (q_ws_good hMo) (by unfold q_ws; rw [q_cd_nil w4, w5]) rfl rfl (hts _ hMo.2.2.2.1) (hts _ w1) (hts _ w2) w3 ⟨hMo.2.1.1, hMo.2.1.2, hnp⟩ hRm) ⟨q_blind, q_pre (As := .ref k :: As) hF hS⟩ rfl (by rw [List.length_map]) hl.1 hstk hroom dc ⟨by omega, by omega⟩)) hF hS hn hc hl (q_os_t o2) hL hC hS2 K2 (fun E n' h' hp _ => absurd hp (K3 E n' h'))
  · exact q_after (st := st) (aa := (Value.ref (ad k) :: As.map (q_v ad)).toArray) (q_runX (va_runIN (As := As.map (q_v ad)) (b := ad k) (rest := st.map (q_v ad)) (bytes := M'.2.2.1) (maxL := M'.2.2.2.1) (n := As.length) ⟨hF.1, hF.2.1, hF.2.2.1, hF.2.2.2.2.2.2.2.1, hts⟩ hMM
      ⟨va_cnB (ws' := q_tw) As.length hts (q_ws_good hMo) (by unfold q_ws; rw [q_cd_nil w4, w5]) rfl rfl (hF.2.2.2.2.2.2.2.2.2.2.2.2.2.2.2.2.1 _ w1) (hts _ hMo.2.2.2.1) ⟨hMo.2.1.1, hMo.2.1.2, hnp⟩ hRm, w3, hts _ w2⟩ ⟨q_blind, q_pre (As := .ref k :: As) hF hS⟩ rfl (by rw [List.length_map]) hl.1 hstk hroom dc ⟨by omega, by omega⟩)) hF hS hn hc hl (q_os_t o2) hL hC hS2 K2 (fun E n' h' hp _ => absurd hp (K3 E n' h'))
end QR5
