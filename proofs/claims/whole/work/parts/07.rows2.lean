/-! ===== fields ===== -/
/-- the field j of the class ci, read by the pool's entry idx of the class own -/
def q_fl (own : String) (idx ci j : Nat) : Prop := ∃ (C : String) (T : u_T) (N : Nat), vwCl[ci]? = some (C, T, N) ∧ j < N ∧ Cond.fieldLink own idx C (T j).2.1 (T j).2.2.1 ∈ q_tw ∧ (T j).1 = C ∧ ∀ w ∈ u_ws C T N, w ∈ q_tw
/-- .. and what its writing asks -/
def q_fp (own : String) (idx ci j : Nat) (ty : FieldType) (fin : Bool) : Prop := ∃ (C : String) (T : u_T) (N : Nat) (ty0 : Nat → FieldType), vwCl[ci]? = some (C, T, N) ∧ j < N ∧ Cond.fieldLink own idx C (T j).2.1 (T j).2.2.1 ∈ q_tw ∧ (T j).1 = C ∧ (∀ w ∈ u_ws C T N, w ∈ q_tw) ∧
  (∀ k, k < N → parseFieldDescriptor (T k).2.2.1 = some (ty0 k)) ∧ (∀ a, a < N → ∀ b, b < N → a ≠ b → (T a).2.1 ≠ (T b).2.1) ∧ (T j).2.2.2 = fin ∧ parseFieldDescriptor (T j).2.2.1 = some ty
theorem q_ok_set {n k : Nat} {h : q_H} (hok : ∀ k, k < n → q_ok n (h k)) {x : q_C} (hx : q_ok n x) : ∀ j, j < n → q_ok n (va_up h k x j) := fun j hj => by
  unfold va_up
  split
  · exact hx
  · exact hok j hj
theorem q_ok_at {n k ci : Nat} {h : q_H} {fs : List Value} (hok : ∀ k, k < n → q_ok n (h k)) (hk : k < n) (hh : h k = .inr (ci, fs)) : ∀ j, Value.ref j ∈ fs → j < n := by
  have h1 := hok k hk
  rw [hh] at h1
  exact h1
theorem q_w_o {tid : Nat → ClassId} {ad : Nat → Nat} {n : Nat} {h : q_H} {k ci : Nat} {fs : List Value} (hk : k < n) (hh : h k = .inr (ci, fs)) : (q_w tid ad n h)[k]? = some (ad k, .inr (ci, fs.map (q_v ad))) := by
  rw [q_w_at hk, hh]
  rfl
theorem q_w_a {tid : Nat → ClassId} {ad : Nat → Nat} {n : Nat} {h : q_H} {k t : Nat} {a : vp_A} (hk : k < n) (hh : h k = .inl (t, a)) : (q_w tid ad n h)[k]? = some (ad k, .inl (tid t, q_a ad a)) := by
  rw [q_w_at hk, hh]
  rfl
section QR2
variable {G : q_G} {M : q_M} {d C S : Nat} {Post : q_R → Nat → q_H → Prop} {pc : Nat} {L : List (Option Value)} {st : List Value} {n : Nat} {h : q_H}
theorem r_getf {k ci j idx : Nat} {fs : List Value} {v : Value} (dc : decode M.2.2.1 pc = .ok (.getfield idx, 3)) (hf : q_fl M.1 idx ci j) (hk : k < n) (hh : h k = .inr (ci, fs)) (hv : fs[j]? = some v) (K : q_W G M d C S Post (pc + 3) L (v :: st) n h) : q_W G M d C S Post pc L (.ref k :: st) n h := by
  intro p l e R s m args below meth c H locs cells slots ls A ad ad0 n0 hF hS hn hc hl hst hL
  obtain ⟨CC, T, N, f1, f2, f3, f4, f5⟩ := hf
  have hov : q_ov n v := fun q hq => Or.inl (q_ok_at hS.2.2.2.1 hk hh q (by rw [← hq]; exact List.mem_of_getElem? hv))
  exact va_get hF.1 hF.2.1 hF.2.2.2.2.2.2.2.2.1 f5 hF.2.2.2.2.2.2.2.1 hF.2.2.2.2.2.2.2.2.2.1 hS.1 k (q_w_o hk hh) f1 j f2 (hF.2.2.2.2.2.2.2.2.1 _ f3) (fun x hx => by rw [← f4]; rw [f4] at hx ⊢; exact hx) (v := q_v ad v) (by rw [List.getElem?_map, hv]; rfl) dc (K p l e R s m args below meth c H locs cells slots ls A ad ad0 n0 hF hS hn hc hl (q_os_c hov (q_os_t hst)) hL)
theorem r_putf {k ci j idx : Nat} {fs : List Value} {x : Int32} {ty : FieldType} (dc : decode M.2.2.1 pc = .ok (.putfield idx, 3)) (hf : q_fp M.1 idx ci j ty false) (hk : k < n) (hh : h k = .inr (ci, fs)) (hj : j < fs.length) (hn1 : narrow ty (.int x) = .int x) (hn2 : fits ty (.int x) = true) (K : q_W G M d C S Post (pc + 3) L st n (va_up h k (.inr (ci, fs.set j (.int x))))) : q_W G M d C S Post pc L (.int x :: .ref k :: st) n h := by
  intro p l e R s m args below meth c H locs cells slots ls A ad ad0 n0 hF hS hn hc hl hst hL
  obtain ⟨CC, T, N, ty0, f1, f2, f3, f4, f5, f6, f7, f8, f9⟩ := hf
  have hok := hS.2.2.2.1
  have hx : q_ok n (.inr (ci, fs.set j (.int x))) := fun q hq => (List.mem_or_eq_of_mem_set hq).elim (q_ok_at hok hk hh q) (fun e => by cases e)
  refine va_put hF.1 hF.2.1 hF.2.2.2.2.2.2.2.2.1 f5 ty0 f6 f7 hF.2.2.2.2.2.2.2.1 hF.2.2.2.2.2.2.2.2.2.1 hS.1 hS.2.1 hS.2.2.1 k (q_w_o hk hh) f1 j f2 (hF.2.2.2.2.2.2.2.2.1 _ f3) (fun x hx => by rw [← f4]; rw [f4] at hx ⊢; exact hx) f8 (v := .int x) f9 hn1 hn2 (by rw [List.length_map]; exact hj) dc (fun H1 locs1 hP hD hSS => ?_)
  have e1 : (q_w G.2.1 ad n h).set k (ad k, .inr (ci, (fs.map (q_v ad)).set j (.int x))) = q_w G.2.1 ad n (va_up h k (.inr (ci, fs.set j (.int x)))) := by
    rw [← q_w_set hk]
    show _ = (q_w G.2.1 ad n h).set k (ad k, .inr (ci, (fs.set j (.int x)).map (q_v ad)))
    rw [List.map_set]
    rfl
  rw [e1] at hP hD
  exact K p l e R s m args below meth c H1 locs1 cells slots ls A ad ad0 n0 hF ⟨hP, hD, hSS, q_ok_set hok hx, hS.2.2.2.2⟩ hn hc hl (q_os_t (q_os_t hst)) hL
theorem r_putF {k ci j idx : Nat} {fs : List Value} {x : Nat} {ty : FieldType} (dc : decode M.2.2.1 pc = .ok (.putfield idx, 3)) (hf : q_fp M.1 idx ci j ty true) (hi : M.2.1.name = "<init>") (ho : ∃ T N, vwCl[ci]? = some (M.1, T, N)) (hk : k < n) (hh : h k = .inr (ci, fs)) (hj : j < fs.length) (hn1 : ∀ a, narrow ty (.ref a) = .ref a ∧ fits ty (.ref a) = true) (hx : x < n) (K : q_W G M d C S Post (pc + 3) L st n (va_up h k (.inr (ci, fs.set j (.ref x))))) : q_W G M d C S Post pc L (.ref x :: .ref k :: st) n h := by
  intro p l e R s m args below meth c H locs cells slots ls A ad ad0 n0 hF hS hn hc hl hst hL
  obtain ⟨CC, T, N, ty0, f1, f2, f3, f4, f5, f6, f7, f8, f9⟩ := hf
  obtain ⟨T', N', ho⟩ := ho
  cases f1.symm.trans ho
  have hok := hS.2.2.2.1
  have hx : q_ok n (.inr (ci, fs.set j (.ref x))) := fun q hq => (List.mem_or_eq_of_mem_set hq).elim (q_ok_at hok hk hh q) (fun e => by cases e; exact hx)
  refine va_putF hF.1 hF.2.1 hF.2.2.2.2.2.2.2.2.1 f5 ty0 f6 f7 hF.2.2.2.2.2.2.2.1 hF.2.2.2.2.2.2.2.2.2.1 hS.1 hS.2.1 hS.2.2.1 k (q_w_o hk hh) f1 j f2 (hF.2.2.2.2.2.2.2.2.1 _ f3) (fun x hx => by rw [← f4]; rw [f4] at hx ⊢; exact hx) f8 (hF.2.2.2.2.2.1.trans hi) f4 (v := .ref (ad x)) f9 (hn1 _).1 (hn1 _).2 (by rw [List.length_map]; exact hj) dc (fun H1 locs1 hP hD hSS => ?_)
  have e1 : (q_w G.2.1 ad n h).set k (ad k, .inr (ci, (fs.map (q_v ad)).set j (.ref (ad x)))) = q_w G.2.1 ad n (va_up h k (.inr (ci, fs.set j (.ref x)))) := by
    rw [← q_w_set hk]
    show _ = (q_w G.2.1 ad n h).set k (ad k, .inr (ci, (fs.set j (.ref x)).map (q_v ad)))
    rw [List.map_set]
    rfl
  rw [e1] at hP hD
  exact K p l e R s m args below meth c H1 locs1 cells slots ls A ad ad0 n0 hF ⟨hP, hD, hSS, q_ok_set hok hx, hS.2.2.2.2⟩ hn hc hl (q_os_t (q_os_t hst)) hL
end QR2
