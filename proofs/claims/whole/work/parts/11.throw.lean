/-! ===== throws, handlers, what is made ===== -/
def q_nms : List String := ["java/lang/RuntimeException", "java/lang/Exception"]
def q_thr (own : String) (ik is ic : Nat) (cls text : String) : Prop := Bundle.fit cls = true ∧ Cond.classLink own ik cls ∈ q_tw ∧ Cond.initialized cls ∈ q_tw ∧ (own, is, text) ∈ q_str ∧ (∀ w ∈ vx_atS own ic cls q_nms, w ∈ q_tw ∨ w ∈ q_ew) ∧ (∀ w ∈ vx_atS own ic cls q_nms, vx_ot w = true)
theorem q_ew_ot {w : Cond} (h : w ∈ q_ew) : w.onTables = true := by
  have h1 := (List.mem_filter.mp h).2
  cases w <;> first | rfl | (simp [q_isE] at h1)
theorem q_tw_ot {w : Cond} (h : w ∈ q_tw) : vx_ot w = true := by
  unfold vx_ot
  rw [(List.mem_filter.mp h).2]
  simp
section QR6
variable {G : q_G} {M : q_M} {d C S : Nat} {Post : q_R → Nat → q_H → Prop} {pc : Nat} {L : List (Option Value)} {st : List Value} {n : Nat} {h : q_H}
theorem q_xc {p : Program} {l : Launch} {R : Room} {s : State} {m : MethodId} {args : Array Value} {meth : Method} {c : Code} {H : Heap} {locs : List Loc} {A : Nat → Prop} {ad ad0 : Nat → Nat} {n0 : Nat} {E : String} (hS : q_S G ad n h A s.heap H locs) (hn : n0 ≤ n ∧ ∀ k, k < n0 ∨ 1000000 ≤ k → ad k = ad0 k) (hp : Post (.inr E) n h) :
    ∀ t : State, s.vm.Alike t.vm → H.size ≤ t.heap.size → (∀ q : Nat, q < H.size → t.heap[q]? = H[q]?) → q_XC G ad0 n0 Post A E s t := by
  intro t _ hz hq
  exact ⟨n, h, ad, hp, hn.1, hn.2, hS.1.kept (fun k q hk => hq q.1 ((hS.1 k q hk).lt)), hS.2.1, hS.2.2.2.1, hS.2.2.2.2, Nat.le_trans hS.2.2.1.1 hz, fun q h1 h2 => (hq q (Nat.lt_of_lt_of_le h1 hS.2.2.1.1)).trans (hS.2.2.1.2.1 q h1 h2)⟩
theorem r_throwS {ik is ic : Nat} {cls text : String} (d0 : decode M.2.2.1 pc = .ok (.new ik, 3)) (d3 : decode M.2.2.1 (pc + 3) = .ok (.dup, 1)) (d4 : decode M.2.2.1 (pc + 4) = .ok (.ldc is, 2)) (d6 : decode M.2.2.1 (pc + 6) = .ok (.invokespecial ic, 3)) (d9 : decode M.2.2.1 (pc + 9) = .ok (.athrow, 1))
    (ht : q_thr M.1 ik is ic cls text) (hh : M.2.2.2.2.2 = []) (hd : 6 ≤ d) (hC : 1 ≤ C) (hS6 : 6 ≤ S) (hr : (st.map fun v => v.category).sum ≤ 40) (hp : Post (.inr cls) n h) : q_W G M d C S Post pc L st n h := by
  intro p l e R s m args below meth c H locs cells slots ls A ad ad0 n0 hF hS hn hc hl hst hL
  obtain ⟨t1, t2, t3, t4, t5, t6⟩ := ht
  have hts := hF.2.2.2.2.2.2.2.2.1
  have hR := hF.2.2.2.2.2.2.2.2.2.2.2.1
  have hX := hF.2.2.2.2.2.2.2.2.2.2.2.2.2
  obtain ⟨sa, hsa⟩ := hX.2.2.2.2.2.1 _ t4
  have htab : c.exceptionTable.toList = [] := by rw [hF.2.2.2.2.2.2.1, hh]; rfl
  exact vx_throwS (names := q_nms) hF.1 hF.2.1 hF.2.2.2.2.2.2.2.2.2.2.1 hF.2.2.2.2.2.2.2.1 t1 (by decide) (hts _ t2) (hts _ t3) hsa (fun w hw => (t5 w hw).elim (hts w) (fun q => va_Nw.use (q_ew_ot q) (hX.2.2.2.1 w q))) (fun w hw => (List.mem_cons.mp hw).elim (fun q => q ▸ q_tw_ot t2) (fun hw => (List.mem_cons.mp hw).elim (fun q => q ▸ q_tw_ot t3) (t6 w))) hX.2.2.1.1 hX.2.2.1.2 hS.2.2.1 (hl.1.trans hF.2.2.1.symm)
    d0 d3 d4 d6 d9 (by rw [htab]; intro x hx; cases hx) (by show 2 + 3 < R.frames; omega) (by rw [q_cats]; show _ + (13 * (2 + 1) + 43) ≤ R.locals; omega) (by omega) (by omega) hF.2.2.2.2.1 (q_xc (p := p) (l := l) (R := R) (m := m) (args := args) (meth := meth) (c := c) hS hn hp) hS.2.2.1.2.2 (by omega) (by omega)
theorem r_throwSW {ik is ic : Nat} {cls text : String} (d0 : decode M.2.2.1 pc = .ok (.new ik, 3)) (d3 : decode M.2.2.1 (pc + 3) = .ok (.dup, 1)) (d4 : decode M.2.2.1 (pc + 4) = .ok (.ldc_w is, 3)) (d7 : decode M.2.2.1 (pc + 7) = .ok (.invokespecial ic, 3)) (d10 : decode M.2.2.1 (pc + 10) = .ok (.athrow, 1))
    (ht : q_thr M.1 ik is ic cls text) (hh : M.2.2.2.2.2 = []) (hd : 6 ≤ d) (hC : 1 ≤ C) (hS6 : 6 ≤ S) (hr : (st.map fun v => v.category).sum ≤ 40) (hp : Post (.inr cls) n h) : q_W G M d C S Post pc L st n h := by
  intro p l e R s m args below meth c H locs cells slots ls A ad ad0 n0 hF hS hn hc hl hst hL
  obtain ⟨t1, t2, t3, t4, t5, t6⟩ := ht
  have hts := hF.2.2.2.2.2.2.2.2.1
  have hR := hF.2.2.2.2.2.2.2.2.2.2.2.1
  have hX := hF.2.2.2.2.2.2.2.2.2.2.2.2.2
  obtain ⟨sa, hsa⟩ := hX.2.2.2.2.2.1 _ t4
  have htab : c.exceptionTable.toList = [] := by rw [hF.2.2.2.2.2.2.1, hh]; rfl
  exact vx_throwSW (names := q_nms) hF.1 hF.2.1 hF.2.2.2.2.2.2.2.2.2.2.1 hF.2.2.2.2.2.2.2.1 t1 (by decide) (hts _ t2) (hts _ t3) hsa (fun w hw => (t5 w hw).elim (hts w) (fun q => va_Nw.use (q_ew_ot q) (hX.2.2.2.1 w q))) (fun w hw => (List.mem_cons.mp hw).elim (fun q => q ▸ q_tw_ot t2) (fun hw => (List.mem_cons.mp hw).elim (fun q => q ▸ q_tw_ot t3) (t6 w))) hX.2.2.1.1 hX.2.2.1.2 hS.2.2.1 (hl.1.trans hF.2.2.1.symm)
    d0 d3 d4 d7 d10 (by rw [htab]; intro x hx; cases hx) (by show 2 + 3 < R.frames; omega) (by rw [q_cats]; show _ + (13 * (2 + 1) + 43) ≤ R.locals; omega) (by omega) (by omega) hF.2.2.2.2.1 (q_xc (p := p) (l := l) (R := R) (m := m) (args := args) (meth := meth) (c := c) hS hn hp) hS.2.2.1.2.2 (by omega) (by omega)
/-- not caught: to the caller -/
theorem x_out {E : String} (hh : M.2.2.2.2.2 = []) (hp : Post (.inr E) n h) : q_WX G M d C S Post pc L n h E := by
  intro p l e R s m args below meth c H locs cells slots ls A ad ad0 n0 rest q9 ce hF hS hn hc hl hL hce hcv hcl
  have htab : c.exceptionTable.toList = [] := by rw [hF.2.2.2.2.2.2.1, hh]; rfl
  exact vx_out (by rw [htab]; intro x hx; cases hx) hF.2.2.2.2.1 hce hcv hcl (fun t ht ha => q_xc (p := p) (l := l) (R := R) (m := m) (args := args) (meth := meth) (c := c) hS hn hp t ha (by rw [ht]; exact Nat.le_refl _) (fun q _ => by rw [ht])) hS.2.2.1.2.2 (by omega) (by omega)
/-- caught by the row x of the method's table, which begins with a store -/
theorem x_catch {E : String} (pre : List ExceptionTableEntry) (x : ExceptionTableEntry) (suf : List ExceptionTableEntry) {i : Nat} {z : Fin 4} (hsp : tableOf M.2.2.2.2.2 = pre ++ x :: suf) (hpass : ∀ z ∈ pre, covers z pc = false ∨ (z.catchType ≠ 0 ∧ ∃ nm : String, Cond.classLink M.1 z.catchType nm ∈ q_tw ∧ (E, nm) ∈ q_nc)) (hx : covers x pc = true) (h0 : x.catchType ≠ 0) (hlk : Cond.classLink M.1 x.catchType E ∈ q_tw) (hca : Cond.castable E E ∈ q_ew)
    (hi : i < M.2.2.2.1) (h1 : q_c1 (L[i - 1]?) = true) {ln : Nat} (da : (decode M.2.2.1 x.handlerPc = .ok (.astore i, 2) ∧ ln = 2) ∨ (decode M.2.2.1 x.handlerPc = .ok (.astore_n z, 1) ∧ (z : Nat) = i ∧ ln = 1)) (K : q_W G M d C S Post (x.handlerPc + ln) (L.set i none) [] n h) : q_WX G M d C S Post pc L n h E := by
  intro p l e R s m args below meth c H locs cells slots ls A ad ad0 n0 rest q9 ce hF hS hn hc hl hL hce hcv hcl
  have hts := hF.2.2.2.2.2.2.2.2.1
  have hX := hF.2.2.2.2.2.2.2.2.2.2.2.2.2
  refine vx_catch (name := E) hF.2.2.2.2.2.2.2.1 pre x suf (hF.2.2.2.2.2.2.1.trans hsp) (fun z hz => (hpass z hz).imp id (fun ⟨a, nm, b1, b2⟩ => ⟨a, nm, hts _ b1, hX.2.2.2.2.2.2 _ b2⟩)) hx h0 (hts _ hlk) (va_Nw.use (q_ew_ot hca) (hX.2.2.2.1 _ hca)) hce hcv hcl ?_
  have hgo : ∀ ls2, lv_has ls2 M.2.2.2.1 ((i, .ref q9) :: (q_pr ad L).filter (fun q => !(q.1 == i) && !(q.1 + 1 == i && q.2.category == 2))) → W p l e R s m args below meth c H locs cells slots (vx_MQ below (q_Qc G ad0 n0 Post A) (q_XC G ad0 n0 Post A) args s R.cells R.slots A) (F0 m (x.handlerPc + ln) ls2 []) := fun ls2 k1 => K p l e R s m args below meth c H locs cells slots ls2 A ad ad0 n0 hF hS hn hc (q_L_st (z := none) k1 h1 (fun w hw => by cases hw)) (fun v hv => by cases hv) (q_oL_none hL)
  rcases da with ⟨da, rfl⟩ | ⟨da, hz, rfl⟩
  · exact lv_astore hF.1 hF.2.1 da (q_L_pr hl) hi rfl hgo
  · exact lv_astore_n hF.1 hF.2.1 da hz (q_L_pr hl) hi rfl hgo
theorem r_objInit {idx k : Nat} (dc : decode M.2.2.1 pc = .ok (.invokespecial idx, 3)) (hw : Cond.methodLink M.1 idx objectInit ∈ q_tw) (hw2 : Cond.instanceMethod objectInit ∈ q_tw) (hw3 : Cond.code objectInit ⟨#[0xb1]⟩ 1 none ∈ q_tw) (hd : 1 ≤ d) (hr : (st.map fun v => v.category).sum ≤ 40) (K : q_W G M d C S Post (pc + 3) L st n h) : q_W G M d C S Post pc L (.ref k :: st) n h := by
  intro p l e R s m args below meth c H locs cells slots ls A ad ad0 n0 hF hS hn hc hl hst hL
  have hts := hF.2.2.2.2.2.2.2.2.1
  have hR := hF.2.2.2.2.2.2.2.2.2.2.2.1
  exact W.objInit hF.1 hF.2.1 hF.2.2.2.2.2.2.2.1 (hts _ hw) (hts _ hw2) (hts _ hw3) rfl (hl.1.trans hF.2.2.1.symm) rfl dc (by omega) (by show 2 * 0 + ((st.map (q_v ad)).map fun v => v.category).sum + 12 ≤ R.locals; rw [q_cats]; omega) (K p l e R s m args below meth c H locs cells slots ls A ad ad0 n0 hF hS hn hc hl (q_os_t hst) hL)
end QR6
