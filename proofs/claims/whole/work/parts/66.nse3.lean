/-! ===== throw of NoSuchElementException in the light logic ===== -/
def q_rx : ByteArray := ⟨#[0x2a, 0x2b, 0xb7, 0x00, 0x0d, 0xb1]⟩
abbrev q_RT : String := "java/lang/RuntimeException"
def q_nmx : List String := ["java/lang/Exception"]
def q_thrN (own : String) (ik is ic : Nat) (text : String) : Prop := Cond.classLink own ik q_NS ∈ q_tw ∧ Cond.initialized q_NS ∈ q_tw ∧ (own, is, text) ∈ q_str ∧ (∀ w ∈ y_atS own ic q_NS q_RT 13 q_rx q_nmx, w ∈ q_tw ∨ w ∈ q_ew) ∧ (∀ w ∈ y_atS own ic q_NS q_RT 13 q_rx q_nmx, vx_ot w = true)
section QR9
variable {G : q_G} {M : q_M} {d C S : Nat} {Post : q_R → Nat → q_H → Prop} {pc : Nat} {L : List (Option Value)} {st : List Value} {n : Nat} {h : q_H}
theorem r_throwN {ik is ic : Nat} {text : String} (d0 : decode M.2.2.1 pc = .ok (.new ik, 3)) (d3 : decode M.2.2.1 (pc + 3) = .ok (.dup, 1)) (d4 : decode M.2.2.1 (pc + 4) = .ok (.ldc is, 2)) (d6 : decode M.2.2.1 (pc + 6) = .ok (.invokespecial ic, 3)) (d9 : decode M.2.2.1 (pc + 9) = .ok (.athrow, 1))
    (ht : q_thrN M.1 ik is ic text) (hh : M.2.2.2.2.2 = []) (hd : 6 ≤ d) (hC : 1 ≤ C) (hS6 : 6 ≤ S) (hr : (st.map fun v => v.category).sum ≤ 40) (hp : Post (.inr q_NS) n h) : q_W G M d C S Post pc L st n h := by
  intro p l e R s m args below meth c H locs cells slots ls A ad ad0 n0 hF hS hn hc hl hst hL
  obtain ⟨t2, t3, t4, t5, t6⟩ := ht
  have hts := hF.2.2.2.2.2.2.2.2.1
  have hR := hF.2.2.2.2.2.2.2.2.2.2.2.1
  have hX := hF.2.2.2.2.2.2.2.2.2.2.2.2.2
  obtain ⟨sa, hsa⟩ := hX.2.2.2.2.2.1 _ t4
  have htab : c.exceptionTable.toList = [] := by rw [hF.2.2.2.2.2.2.1, hh]; rfl
  exact y_throwS (names := q_nmx) hF.1 hF.2.1 hF.2.2.2.2.2.2.2.2.2.2.1 hF.2.2.2.2.2.2.2.1 (by decide +kernel) (by decide +kernel) (by decide +kernel) (by decide +kernel) (by decide +kernel) (by decide +kernel) (by decide +kernel) (hts _ t2) (hts _ t3) hsa (fun w hw => (t5 w hw).elim (hts w) (fun q => va_Nw.use (q_ew_ot q) (hX.2.2.2.1 w q))) (fun w hw => (List.mem_cons.mp hw).elim (fun q => q ▸ q_tw_ot t2) (fun hw => (List.mem_cons.mp hw).elim (fun q => q ▸ q_tw_ot t3) (t6 w))) hX.2.2.1.1 hX.2.2.1.2 hS.2.2.1 (hl.1.trans hF.2.2.1.symm)
    d0 d3 d4 d6 d9 (by rw [htab]; intro x hx; cases hx) (by show 1 + 4 < R.frames; omega) (by rw [q_cats]; show _ + (13 * (1 + 2) + 43) ≤ R.locals; omega) (by omega) (by omega) hF.2.2.2.2.1 (q_xc (p := p) (l := l) (R := R) (m := m) (args := args) (meth := meth) (c := c) hS hn hp) hS.2.2.1.2.2 (by omega) (by omega)
theorem s_throwN {P : q_R → s_T → Prop} {s : s_T} {ik is ic : Nat} {text : String} (d0 : decode M.2.2.1 pc = .ok (.new ik, 3)) (d3 : decode M.2.2.1 (pc + 3) = .ok (.dup, 1)) (d4 : decode M.2.2.1 (pc + 4) = .ok (.ldc is, 2)) (d6 : decode M.2.2.1 (pc + 6) = .ok (.invokespecial ic, 3)) (d9 : decode M.2.2.1 (pc + 9) = .ok (.athrow, 1)) (ht : q_thrN M.1 ik is ic text) (hh : M.2.2.2.2.2 = []) (hd : 6 ≤ d) (hC : 1 ≤ C) (hS6 : 6 ≤ S) (hr : (st.map fun v => v.category).sum ≤ 40) (hp : P (.inr q_NS) s) : s_W G M d C S P pc L st s := r_throwN d0 d3 d4 d6 d9 ht hh hd hC hS6 hr (s_end hp)
theorem r_throwNW {ik is ic : Nat} {text : String} (d0 : decode M.2.2.1 pc = .ok (.new ik, 3)) (d3 : decode M.2.2.1 (pc + 3) = .ok (.dup, 1)) (d4 : decode M.2.2.1 (pc + 4) = .ok (.ldc_w is, 3)) (d6 : decode M.2.2.1 (pc + 7) = .ok (.invokespecial ic, 3)) (d9 : decode M.2.2.1 (pc + 10) = .ok (.athrow, 1))
    (ht : q_thrN M.1 ik is ic text) (hh : M.2.2.2.2.2 = []) (hd : 6 ≤ d) (hC : 1 ≤ C) (hS6 : 6 ≤ S) (hr : (st.map fun v => v.category).sum ≤ 40) (hp : Post (.inr q_NS) n h) : q_W G M d C S Post pc L st n h := by
  intro p l e R s m args below meth c H locs cells slots ls A ad ad0 n0 hF hS hn hc hl hst hL
  obtain ⟨t2, t3, t4, t5, t6⟩ := ht
  have hts := hF.2.2.2.2.2.2.2.2.1
  have hR := hF.2.2.2.2.2.2.2.2.2.2.2.1
  have hX := hF.2.2.2.2.2.2.2.2.2.2.2.2.2
  obtain ⟨sa, hsa⟩ := hX.2.2.2.2.2.1 _ t4
  have htab : c.exceptionTable.toList = [] := by rw [hF.2.2.2.2.2.2.1, hh]; rfl
  exact y_throwSW (names := q_nmx) hF.1 hF.2.1 hF.2.2.2.2.2.2.2.2.2.2.1 hF.2.2.2.2.2.2.2.1 (by decide +kernel) (by decide +kernel) (by decide +kernel) (by decide +kernel) (by decide +kernel) (by decide +kernel) (by decide +kernel) (hts _ t2) (hts _ t3) hsa (fun w hw => (t5 w hw).elim (hts w) (fun q => va_Nw.use (q_ew_ot q) (hX.2.2.2.1 w q))) (fun w hw => (List.mem_cons.mp hw).elim (fun q => q ▸ q_tw_ot t2) (fun hw => (List.mem_cons.mp hw).elim (fun q => q ▸ q_tw_ot t3) (t6 w))) hX.2.2.1.1 hX.2.2.1.2 hS.2.2.1 (hl.1.trans hF.2.2.1.symm)
    d0 d3 d4 d6 d9 (by rw [htab]; intro x hx; cases hx) (by show 1 + 4 < R.frames; omega) (by rw [q_cats]; show _ + (13 * (1 + 2) + 43) ≤ R.locals; omega) (by omega) (by omega) hF.2.2.2.2.1 (q_xc (p := p) (l := l) (R := R) (m := m) (args := args) (meth := meth) (c := c) hS hn hp) hS.2.2.1.2.2 (by omega) (by omega)
theorem s_throwNW {P : q_R → s_T → Prop} {s : s_T} {ik is ic : Nat} {text : String} (d0 : decode M.2.2.1 pc = .ok (.new ik, 3)) (d3 : decode M.2.2.1 (pc + 3) = .ok (.dup, 1)) (d4 : decode M.2.2.1 (pc + 4) = .ok (.ldc_w is, 3)) (d6 : decode M.2.2.1 (pc + 7) = .ok (.invokespecial ic, 3)) (d9 : decode M.2.2.1 (pc + 10) = .ok (.athrow, 1)) (ht : q_thrN M.1 ik is ic text) (hh : M.2.2.2.2.2 = []) (hd : 6 ≤ d) (hC : 1 ≤ C) (hS6 : 6 ≤ S) (hr : (st.map fun v => v.category).sum ≤ 40) (hp : P (.inr q_NS) s) : s_W G M d C S P pc L st s := r_throwNW d0 d3 d4 d6 d9 ht hh hd hC hS6 hr (s_end hp)
end QR9
theorem thwN : ∀ w ∈ y_atS RX11 215 q_NS q_RT 13 q_rx q_nmx, w ∈ q_tw ∨ w ∈ q_ew := by
  have h : (y_atS RX11 215 q_NS q_RT 13 q_rx q_nmx).all (fun w => decide (w ∈ lw_tbl) && (goodWord w || q_isE w)) = true := by decide +kernel
  intro w hw
  have h1 := List.all_eq_true.mp h w hw
  rw [Bool.and_eq_true, decide_eq_true_eq, Bool.or_eq_true] at h1
  exact h1.2.imp (fun q => List.mem_filter.mpr ⟨h1.1, q⟩) (fun q => List.mem_filter.mpr ⟨h1.1, q⟩)
theorem thwNo : ∀ w ∈ y_atS RX11 215 q_NS q_RT 13 q_rx q_nmx, vx_ot w = true := by decide +kernel
theorem thwNk : Cond.classLink RX11 211 q_NS ∈ q_tw := (q_in (q_t4 (List.mem_of_getElem? (i := 136) (by decide +kernel))) (by decide +kernel))
theorem thwNi : Cond.initialized q_NS ∈ q_tw := (q_in (q_t1 (List.mem_of_getElem? (i := 20) (by decide +kernel))) (by decide +kernel))
theorem thrN_213 : q_thrN RX11 211 213 215 "no such position" := ⟨thwNk, thwNi, List.mem_filterMap.mpr ⟨Cond.stringRef RX11 213 "no such position", q_t4 (List.mem_of_getElem? (i := 145) (by decide +kernel)), rfl⟩, thwN, thwNo⟩
theorem thrN_275 : q_thrN RX11 211 275 215 "no such index" := ⟨thwNk, thwNi, List.mem_filterMap.mpr ⟨Cond.stringRef RX11 275 "no such index", q_t4 (List.mem_of_getElem? (i := 231) (by decide +kernel)), rfl⟩, thwN, thwNo⟩
theorem thrN_282 : q_thrN RX11 211 282 215 "no such block" := ⟨thwNk, thwNi, List.mem_filterMap.mpr ⟨Cond.stringRef RX11 282 "no such block", q_t4 (List.mem_of_getElem? (i := 239) (by decide +kernel)), rfl⟩, thwN, thwNo⟩
theorem thrN_287 : q_thrN RX11 211 287 215 "this position or the next one does not exist" := ⟨thwNk, thwNi, List.mem_filterMap.mpr ⟨Cond.stringRef RX11 287 "this position or the next one does not exist", q_t5 (List.mem_of_getElem? (i := 7) (by decide +kernel)), rfl⟩, thwN, thwNo⟩
theorem thrN_328 : q_thrN RX11 211 328 215 "no such call or index" := ⟨thwNk, thwNi, List.mem_filterMap.mpr ⟨Cond.stringRef RX11 328 "no such call or index", q_t5 (List.mem_of_getElem? (i := 118) (by decide +kernel)), rfl⟩, thwN, thwNo⟩
