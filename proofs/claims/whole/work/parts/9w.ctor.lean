/-! ===== what is made at first ===== -/
def s00 : s_T := fun k => if k = 124 ∨ k = 132 ∨ k = 152 ∨ k = 162 then (fun j => if j = 9 then -1 else 0) else if k = 212 then (fun j => if j = 14 then -1 else 0) else (fun _ => 0)
def kh (h : q_H) (o : Nat) : q_H := fun k => if k < o then h k else q_hs s00 k
theorem kh_lt {h : q_H} {o k : Nat} (hk : k < o) : kh h o k = h k := if_pos hk
theorem kh_ge {h : q_H} {o k : Nat} (hk : ¬ k < o) : kh h o k = q_hs s00 k := if_neg hk
theorem mn_lt {h : q_H} {n N K k : Nat} (hk : k < n) : q_mn h n N K k = h k := by
  unfold q_mn
  rw [if_neg (by omega), if_neg (by omega)]
def kP (h : q_H) (o m : Nat) : q_R → Nat → q_H → Prop := fun r n' h' => r = .inl none ∧ n' = m ∧ ∀ k, k < m → h' k = kh h o k
theorem k_call {G : q_G} {M : q_M} {d C S : Nat} {Post : q_R → Nat → q_H → Prop} {pc : Nat} {L : List (Option Value)} {st : List Value} {n : Nat} (M' : q_M) {d' C' S' : Nat} {idx p m : Nat} {H : q_H} {x : q_C} (dc : decode M.2.2.1 pc = .ok (.invokespecial idx, 3)) (hMo : q_Mok M') (hlk : q_lI M.1 idx M' ∨ q_lIN M.1 idx M') (hnp : q_np M' 0) (hd : d' + 1 ≤ d) (hC : C' ≤ C) (hS2 : S' ≤ S) (hr : (st.map fun v => v.category).sum ≤ 8) (hA : (q_sl [.ref p]).length ≤ M'.2.2.2.1)
    (K1 : q_W G M' d' C' S' (kP H p m) 0 (q_ent M' [.ref p]) [] n (va_up H p x)) (K2 : q_W G M d (C - C') (S - S') Post (pc + 3) L st m (kh H p)) : q_W G M d C S Post pc L (.ref p :: st) n (va_up H p x) :=
  r_callI M' [] dc hMo hlk hnp hd hC hS2 hr hA rfl K1 (fun v n' h' hp _ => by
    obtain ⟨e1, e2, e3⟩ := hp
    cases e1
    subst e2
    exact q_W_congr e3 K2) (fun E n' h' hp => by obtain ⟨e1, -⟩ := hp; cases e1)
theorem kwA_int : Cond.arrayClass .int ∈ q_tw := (q_in (q_t1 (List.mem_of_getElem? (i := 64) (by decide +kernel))) (by decide +kernel))
theorem kwA_boolean : Cond.arrayClass .boolean ∈ q_tw := (q_in (q_t1 (List.mem_of_getElem? (i := 211) (by decide +kernel))) (by decide +kernel))
theorem kwA_char : Cond.arrayClass .char ∈ q_tw := (q_in (q_t2 (List.mem_of_getElem? (i := 152) (by decide +kernel))) (by decide +kernel))
theorem kwA_long : Cond.arrayClass .long ∈ q_tw := (q_in (q_t8 (List.mem_of_getElem? (i := 9) (by decide +kernel))) (by decide +kernel))
theorem kwA_double : Cond.arrayClass .double ∈ q_tw := (q_in (q_t8 (List.mem_of_getElem? (i := 10) (by decide +kernel))) (by decide +kernel))
theorem kwI_X7 : Cond.instantiable RX7 15 ∈ q_tw := (q_in (q_t1 (List.mem_of_getElem? (i := 32) (by decide +kernel))) (by decide +kernel))
theorem kwN_X7 : Cond.initialized RX7 ∈ q_tw := (q_in (q_t1 (List.mem_of_getElem? (i := 2) (by decide +kernel))) (by decide +kernel))
theorem k_newX7 {G : q_G} {M : q_M} {d C S : Nat} {Post : q_R → Nat → q_H → Prop} {pc : Nat} {L : List (Option Value)} {st : List Value} {n : Nat} {h : q_H} {idx : Nat} (dc : decode M.2.2.1 pc = .ok (.new idx, 3)) (hw1 : Cond.classLink M.1 idx RX7 ∈ q_tw) (hC : 1 ≤ C) (hS2 : 15 ≤ S) (h9 : n < 900000) (K : q_W G M d (C - 1) (S - 15) Post (pc + 3) L (.ref n :: st) (n + 1) (va_up h n (.inr (7, [.int 0, .int 0, .null, .null, .null, .null, .null, .null, .null, .null, .null, .null, .null, .null, .null])))) : q_W G M d C S Post pc L st n h :=
  r_new tyX7 dc rfl tyX7_ok uwX7 hw1 kwI_X7 kwN_X7 (by
    intro j hj
    match j, hj with
    | 0, _ => rfl
    | 1, _ => rfl
    | 2, _ => rfl
    | 3, _ => rfl
    | 4, _ => rfl
    | 5, _ => rfl
    | 6, _ => rfl
    | 7, _ => rfl
    | 8, _ => rfl
    | 9, _ => rfl
    | 10, _ => rfl
    | 11, _ => rfl
    | 12, _ => rfl
    | 13, _ => rfl
    | 14, _ => rfl
    | j + 15, hj => exact absurd hj (by omega)) (fun k hk => by simp at hk) hC hS2 h9 K
theorem kwI_X5 : Cond.instantiable RX5 2 ∈ q_tw := (q_in (q_t1 (List.mem_of_getElem? (i := 40) (by decide +kernel))) (by decide +kernel))
theorem kwN_X5 : Cond.initialized RX5 ∈ q_tw := (q_in (q_t1 (List.mem_of_getElem? (i := 3) (by decide +kernel))) (by decide +kernel))
theorem k_newX5 {G : q_G} {M : q_M} {d C S : Nat} {Post : q_R → Nat → q_H → Prop} {pc : Nat} {L : List (Option Value)} {st : List Value} {n : Nat} {h : q_H} {idx : Nat} (dc : decode M.2.2.1 pc = .ok (.new idx, 3)) (hw1 : Cond.classLink M.1 idx RX5 ∈ q_tw) (hC : 1 ≤ C) (hS2 : 2 ≤ S) (h9 : n < 900000) (K : q_W G M d (C - 1) (S - 2) Post (pc + 3) L (.ref n :: st) (n + 1) (va_up h n (.inr (5, [.null, .null])))) : q_W G M d C S Post pc L st n h :=
  r_new tyX5 dc rfl tyX5_ok uwX5 hw1 kwI_X5 kwN_X5 (by
    intro j hj
    match j, hj with
    | 0, _ => rfl
    | 1, _ => rfl
    | j + 2, hj => exact absurd hj (by omega)) (fun k hk => by simp at hk) hC hS2 h9 K
theorem kwI_X10 : Cond.instantiable RX10 11 ∈ q_tw := (q_in (q_t1 (List.mem_of_getElem? (i := 158) (by decide +kernel))) (by decide +kernel))
theorem kwN_X10 : Cond.initialized RX10 ∈ q_tw := (q_in (q_t1 (List.mem_of_getElem? (i := 4) (by decide +kernel))) (by decide +kernel))
theorem k_newX10 {G : q_G} {M : q_M} {d C S : Nat} {Post : q_R → Nat → q_H → Prop} {pc : Nat} {L : List (Option Value)} {st : List Value} {n : Nat} {h : q_H} {idx : Nat} (dc : decode M.2.2.1 pc = .ok (.new idx, 3)) (hw1 : Cond.classLink M.1 idx RX10 ∈ q_tw) (hC : 1 ≤ C) (hS2 : 11 ≤ S) (h9 : n < 900000) (K : q_W G M d (C - 1) (S - 11) Post (pc + 3) L (.ref n :: st) (n + 1) (va_up h n (.inr (10, [.null, .null, .null, .null, .null, .int 0, .int 0, .null, .null, .int 0, .int 0])))) : q_W G M d C S Post pc L st n h :=
  r_new tyX10 dc rfl tyX10_ok uwX10 hw1 kwI_X10 kwN_X10 (by
    intro j hj
    match j, hj with
    | 0, _ => rfl
    | 1, _ => rfl
    | 2, _ => rfl
    | 3, _ => rfl
    | 4, _ => rfl
    | 5, _ => rfl
    | 6, _ => rfl
    | 7, _ => rfl
    | 8, _ => rfl
    | 9, _ => rfl
    | 10, _ => rfl
    | j + 11, hj => exact absurd hj (by omega)) (fun k hk => by simp at hk) hC hS2 h9 K
theorem kwI_X2 : Cond.instantiable RX2 5 ∈ q_tw := (q_in (q_t1 (List.mem_of_getElem? (i := 213) (by decide +kernel))) (by decide +kernel))
theorem kwN_X2 : Cond.initialized RX2 ∈ q_tw := (q_in (q_t1 (List.mem_of_getElem? (i := 5) (by decide +kernel))) (by decide +kernel))
theorem k_newX2 {G : q_G} {M : q_M} {d C S : Nat} {Post : q_R → Nat → q_H → Prop} {pc : Nat} {L : List (Option Value)} {st : List Value} {n : Nat} {h : q_H} {idx : Nat} (dc : decode M.2.2.1 pc = .ok (.new idx, 3)) (hw1 : Cond.classLink M.1 idx RX2 ∈ q_tw) (hC : 1 ≤ C) (hS2 : 5 ≤ S) (h9 : n < 900000) (K : q_W G M d (C - 1) (S - 5) Post (pc + 3) L (.ref n :: st) (n + 1) (va_up h n (.inr (2, [.int 0, .null, .int 0, .null, .null])))) : q_W G M d C S Post pc L st n h :=
  r_new tyX2 dc rfl tyX2_ok uwX2 hw1 kwI_X2 kwN_X2 (by
    intro j hj
    match j, hj with
    | 0, _ => rfl
    | 1, _ => rfl
    | 2, _ => rfl
    | 3, _ => rfl
    | 4, _ => rfl
    | j + 5, hj => exact absurd hj (by omega)) (fun k hk => by simp at hk) hC hS2 h9 K
theorem kwI_X3 : Cond.instantiable RX3 4 ∈ q_tw := (q_in (q_t1 (List.mem_of_getElem? (i := 239) (by decide +kernel))) (by decide +kernel))
theorem kwN_X3 : Cond.initialized RX3 ∈ q_tw := (q_in (q_t1 (List.mem_of_getElem? (i := 6) (by decide +kernel))) (by decide +kernel))
theorem k_newX3 {G : q_G} {M : q_M} {d C S : Nat} {Post : q_R → Nat → q_H → Prop} {pc : Nat} {L : List (Option Value)} {st : List Value} {n : Nat} {h : q_H} {idx : Nat} (dc : decode M.2.2.1 pc = .ok (.new idx, 3)) (hw1 : Cond.classLink M.1 idx RX3 ∈ q_tw) (hC : 1 ≤ C) (hS2 : 4 ≤ S) (h9 : n < 900000) (K : q_W G M d (C - 1) (S - 4) Post (pc + 3) L (.ref n :: st) (n + 1) (va_up h n (.inr (3, [.null, .null, .int 0, .int 0])))) : q_W G M d C S Post pc L st n h :=
  r_new tyX3 dc rfl tyX3_ok uwX3 hw1 kwI_X3 kwN_X3 (by
    intro j hj
    match j, hj with
    | 0, _ => rfl
    | 1, _ => rfl
    | 2, _ => rfl
    | 3, _ => rfl
    | j + 4, hj => exact absurd hj (by omega)) (fun k hk => by simp at hk) hC hS2 h9 K
theorem kwI_X6 : Cond.instantiable RX6 3 ∈ q_tw := (q_in (q_t2 (List.mem_of_getElem? (i := 18) (by decide +kernel))) (by decide +kernel))
theorem kwN_X6 : Cond.initialized RX6 ∈ q_tw := (q_in (q_t1 (List.mem_of_getElem? (i := 7) (by decide +kernel))) (by decide +kernel))
theorem k_newX6 {G : q_G} {M : q_M} {d C S : Nat} {Post : q_R → Nat → q_H → Prop} {pc : Nat} {L : List (Option Value)} {st : List Value} {n : Nat} {h : q_H} {idx : Nat} (dc : decode M.2.2.1 pc = .ok (.new idx, 3)) (hw1 : Cond.classLink M.1 idx RX6 ∈ q_tw) (hC : 1 ≤ C) (hS2 : 3 ≤ S) (h9 : n < 900000) (K : q_W G M d (C - 1) (S - 3) Post (pc + 3) L (.ref n :: st) (n + 1) (va_up h n (.inr (6, [.int 0, .null, .null])))) : q_W G M d C S Post pc L st n h :=
  r_new tyX6 dc rfl tyX6_ok uwX6 hw1 kwI_X6 kwN_X6 (by
    intro j hj
    match j, hj with
    | 0, _ => rfl
    | 1, _ => rfl
    | 2, _ => rfl
    | j + 3, hj => exact absurd hj (by omega)) (fun k hk => by simp at hk) hC hS2 h9 K
theorem kwI_X0 : Cond.instantiable RX0 4 ∈ q_tw := (q_in (q_t2 (List.mem_of_getElem? (i := 37) (by decide +kernel))) (by decide +kernel))
theorem kwN_X0 : Cond.initialized RX0 ∈ q_tw := (q_in (q_t1 (List.mem_of_getElem? (i := 8) (by decide +kernel))) (by decide +kernel))
theorem k_newX0 {G : q_G} {M : q_M} {d C S : Nat} {Post : q_R → Nat → q_H → Prop} {pc : Nat} {L : List (Option Value)} {st : List Value} {n : Nat} {h : q_H} {idx : Nat} (dc : decode M.2.2.1 pc = .ok (.new idx, 3)) (hw1 : Cond.classLink M.1 idx RX0 ∈ q_tw) (hC : 1 ≤ C) (hS2 : 4 ≤ S) (h9 : n < 900000) (K : q_W G M d (C - 1) (S - 4) Post (pc + 3) L (.ref n :: st) (n + 1) (va_up h n (.inr (0, [.int 0, .null, .null, .null])))) : q_W G M d C S Post pc L st n h :=
  r_new tyX0 dc rfl tyX0_ok uwX0 hw1 kwI_X0 kwN_X0 (by
    intro j hj
    match j, hj with
    | 0, _ => rfl
    | 1, _ => rfl
    | 2, _ => rfl
    | 3, _ => rfl
    | j + 4, hj => exact absurd hj (by omega)) (fun k hk => by simp at hk) hC hS2 h9 K
theorem kwI_X8 : Cond.instantiable RX8 9 ∈ q_tw := (q_in (q_t2 (List.mem_of_getElem? (i := 60) (by decide +kernel))) (by decide +kernel))
theorem kwN_X8 : Cond.initialized RX8 ∈ q_tw := (q_in (q_t1 (List.mem_of_getElem? (i := 9) (by decide +kernel))) (by decide +kernel))
theorem k_newX8 {G : q_G} {M : q_M} {d C S : Nat} {Post : q_R → Nat → q_H → Prop} {pc : Nat} {L : List (Option Value)} {st : List Value} {n : Nat} {h : q_H} {idx : Nat} (dc : decode M.2.2.1 pc = .ok (.new idx, 3)) (hw1 : Cond.classLink M.1 idx RX8 ∈ q_tw) (hC : 1 ≤ C) (hS2 : 9 ≤ S) (h9 : n < 900000) (K : q_W G M d (C - 1) (S - 9) Post (pc + 3) L (.ref n :: st) (n + 1) (va_up h n (.inr (8, [.int 0, .null, .null, .null, .int 0, .null, .int 0, .int 0, .int 0])))) : q_W G M d C S Post pc L st n h :=
  r_new tyX8 dc rfl tyX8_ok uwX8 hw1 kwI_X8 kwN_X8 (by
    intro j hj
    match j, hj with
    | 0, _ => rfl
    | 1, _ => rfl
    | 2, _ => rfl
    | 3, _ => rfl
    | 4, _ => rfl
    | 5, _ => rfl
    | 6, _ => rfl
    | 7, _ => rfl
    | 8, _ => rfl
    | j + 9, hj => exact absurd hj (by omega)) (fun k hk => by simp at hk) hC hS2 h9 K
theorem kwI_X1 : Cond.instantiable RX1 4 ∈ q_tw := (q_in (q_t2 (List.mem_of_getElem? (i := 102) (by decide +kernel))) (by decide +kernel))
theorem kwN_X1 : Cond.initialized RX1 ∈ q_tw := (q_in (q_t1 (List.mem_of_getElem? (i := 10) (by decide +kernel))) (by decide +kernel))
theorem k_newX1 {G : q_G} {M : q_M} {d C S : Nat} {Post : q_R → Nat → q_H → Prop} {pc : Nat} {L : List (Option Value)} {st : List Value} {n : Nat} {h : q_H} {idx : Nat} (dc : decode M.2.2.1 pc = .ok (.new idx, 3)) (hw1 : Cond.classLink M.1 idx RX1 ∈ q_tw) (hC : 1 ≤ C) (hS2 : 4 ≤ S) (h9 : n < 900000) (K : q_W G M d (C - 1) (S - 4) Post (pc + 3) L (.ref n :: st) (n + 1) (va_up h n (.inr (1, [.int 0, .null, .null, .null])))) : q_W G M d C S Post pc L st n h :=
  r_new tyX1 dc rfl tyX1_ok uwX1 hw1 kwI_X1 kwN_X1 (by
    intro j hj
    match j, hj with
    | 0, _ => rfl
    | 1, _ => rfl
    | 2, _ => rfl
    | 3, _ => rfl
    | j + 4, hj => exact absurd hj (by omega)) (fun k hk => by simp at hk) hC hS2 h9 K
theorem kwI_X9 : Cond.instantiable RX9 8 ∈ q_tw := (q_in (q_t2 (List.mem_of_getElem? (i := 121) (by decide +kernel))) (by decide +kernel))
theorem kwN_X9 : Cond.initialized RX9 ∈ q_tw := (q_in (q_t1 (List.mem_of_getElem? (i := 11) (by decide +kernel))) (by decide +kernel))
theorem k_newX9 {G : q_G} {M : q_M} {d C S : Nat} {Post : q_R → Nat → q_H → Prop} {pc : Nat} {L : List (Option Value)} {st : List Value} {n : Nat} {h : q_H} {idx : Nat} (dc : decode M.2.2.1 pc = .ok (.new idx, 3)) (hw1 : Cond.classLink M.1 idx RX9 ∈ q_tw) (hC : 1 ≤ C) (hS2 : 8 ≤ S) (h9 : n < 900000) (K : q_W G M d (C - 1) (S - 8) Post (pc + 3) L (.ref n :: st) (n + 1) (va_up h n (.inr (9, [.int 0, .null, .int 0, .null, .null, .int 0, .int 0, .int 0])))) : q_W G M d C S Post pc L st n h :=
  r_new tyX9 dc rfl tyX9_ok uwX9 hw1 kwI_X9 kwN_X9 (by
    intro j hj
    match j, hj with
    | 0, _ => rfl
    | 1, _ => rfl
    | 2, _ => rfl
    | 3, _ => rfl
    | 4, _ => rfl
    | 5, _ => rfl
    | 6, _ => rfl
    | 7, _ => rfl
    | j + 8, hj => exact absurd hj (by omega)) (fun k hk => by simp at hk) hC hS2 h9 K
theorem kwI_X4 : Cond.instantiable RX4 2 ∈ q_tw := (q_in (q_t2 (List.mem_of_getElem? (i := 154) (by decide +kernel))) (by decide +kernel))
theorem kwN_X4 : Cond.initialized RX4 ∈ q_tw := (q_in (q_t1 (List.mem_of_getElem? (i := 12) (by decide +kernel))) (by decide +kernel))
theorem k_newX4 {G : q_G} {M : q_M} {d C S : Nat} {Post : q_R → Nat → q_H → Prop} {pc : Nat} {L : List (Option Value)} {st : List Value} {n : Nat} {h : q_H} {idx : Nat} (dc : decode M.2.2.1 pc = .ok (.new idx, 3)) (hw1 : Cond.classLink M.1 idx RX4 ∈ q_tw) (hC : 1 ≤ C) (hS2 : 2 ≤ S) (h9 : n < 900000) (K : q_W G M d (C - 1) (S - 2) Post (pc + 3) L (.ref n :: st) (n + 1) (va_up h n (.inr (4, [.int 0, .null])))) : q_W G M d C S Post pc L st n h :=
  r_new tyX4 dc rfl tyX4_ok uwX4 hw1 kwI_X4 kwN_X4 (by
    intro j hj
    match j, hj with
    | 0, _ => rfl
    | 1, _ => rfl
    | j + 2, hj => exact absurd hj (by omega)) (fun k hk => by simp at hk) hC hS2 h9 K
theorem kwI_X11 : Cond.instantiable RX11 14 ∈ q_tw := (q_in (q_t1 (List.mem_of_getElem? (i := 24) (by decide +kernel))) (by decide +kernel))
theorem kwN_X11 : Cond.initialized RX11 ∈ q_tw := (q_in (q_t1 (List.mem_of_getElem? (i := 1) (by decide +kernel))) (by decide +kernel))
theorem k_newX11 {G : q_G} {M : q_M} {d C S : Nat} {Post : q_R → Nat → q_H → Prop} {pc : Nat} {L : List (Option Value)} {st : List Value} {n : Nat} {h : q_H} {idx : Nat} (dc : decode M.2.2.1 pc = .ok (.new idx, 3)) (hw1 : Cond.classLink M.1 idx RX11 ∈ q_tw) (hC : 1 ≤ C) (hS2 : 14 ≤ S) (h9 : n < 900000) (K : q_W G M d (C - 1) (S - 14) Post (pc + 3) L (.ref n :: st) (n + 1) (va_up h n (.inr (11, [.null, .null, .null, .null, .null, .null, .null, .null, .null, .null, .null, .null, .null, .int 0])))) : q_W G M d C S Post pc L st n h :=
  r_new tyX11 dc rfl tyX11_ok uwX11 hw1 kwI_X11 kwN_X11 (by
    intro j hj
    match j, hj with
    | 0, _ => rfl
    | 1, _ => rfl
    | 2, _ => rfl
    | 3, _ => rfl
    | 4, _ => rfl
    | 5, _ => rfl
    | 6, _ => rfl
    | 7, _ => rfl
    | 8, _ => rfl
    | 9, _ => rfl
    | 10, _ => rfl
    | 11, _ => rfl
    | 12, _ => rfl
    | 13, _ => rfl
    | j + 14, hj => exact absurd hj (by omega)) (fun k hk => by simp at hk) hC hS2 h9 K
theorem kwI_X12 : Cond.instantiable RX12 37 ∈ q_tw := (q_in (q_t6 (List.mem_of_getElem? (i := 9) (by decide +kernel))) (by decide +kernel))
theorem kwN_X12 : Cond.initialized RX12 ∈ q_tw := (q_in (q_t1 (List.mem_of_getElem? (i := 13) (by decide +kernel))) (by decide +kernel))
theorem k_newX12 {G : q_G} {M : q_M} {d C S : Nat} {Post : q_R → Nat → q_H → Prop} {pc : Nat} {L : List (Option Value)} {st : List Value} {n : Nat} {h : q_H} {idx : Nat} (dc : decode M.2.2.1 pc = .ok (.new idx, 3)) (hw1 : Cond.classLink M.1 idx RX12 ∈ q_tw) (hC : 1 ≤ C) (hS2 : 37 ≤ S) (h9 : n < 900000) (K : q_W G M d (C - 1) (S - 37) Post (pc + 3) L (.ref n :: st) (n + 1) (va_up h n (.inr (12, [.null, .null, .int 0, .int 0, .null, .int 0, .null, .int 0, .null, .int 0, .int 0, .null, .null, .null, .int 0, .int 0, .null, .int 0, .null, .null, .null, .int 0, .null, .null, .null, .null, .null, .null, .null, .null, .int 0, .int 0, .int 0, .int 0, .int 0, .int 0, .null])))) : q_W G M d C S Post pc L st n h :=
  r_new tyX12 dc rfl tyX12_ok uwX12 hw1 kwI_X12 kwN_X12 (by
    intro j hj
    match j, hj with
    | 0, _ => rfl
    | 1, _ => rfl
    | 2, _ => rfl
    | 3, _ => rfl
    | 4, _ => rfl
    | 5, _ => rfl
    | 6, _ => rfl
    | 7, _ => rfl
    | 8, _ => rfl
    | 9, _ => rfl
    | 10, _ => rfl
    | 11, _ => rfl
    | 12, _ => rfl
    | 13, _ => rfl
    | 14, _ => rfl
    | 15, _ => rfl
    | 16, _ => rfl
    | 17, _ => rfl
    | 18, _ => rfl
    | 19, _ => rfl
    | 20, _ => rfl
    | 21, _ => rfl
    | 22, _ => rfl
    | 23, _ => rfl
    | 24, _ => rfl
    | 25, _ => rfl
    | 26, _ => rfl
    | 27, _ => rfl
    | 28, _ => rfl
    | 29, _ => rfl
    | 30, _ => rfl
    | 31, _ => rfl
    | 32, _ => rfl
    | 33, _ => rfl
    | 34, _ => rfl
    | 35, _ => rfl
    | 36, _ => rfl
    | j + 37, hj => exact absurd hj (by omega)) (fun k hk => by simp at hk) hC hS2 h9 K
theorem kwL_L_8 : Cond.classLink RL 8 RX11 ∈ q_tw := (q_in (q_t1 (List.mem_of_getElem? (i := 23) (by decide +kernel))) (by decide +kernel))
theorem kwL_X11_7 : Cond.classLink RX11 7 RX7 ∈ q_tw := (q_in (q_t1 (List.mem_of_getElem? (i := 31) (by decide +kernel))) (by decide +kernel))
theorem kwL_X7_9 : Cond.classLink RX7 9 ("[" ++ (FieldType.array .int).toString) ∈ q_tw := (q_in (q_t1 (List.mem_of_getElem? (i := 37) (by decide +kernel))) (by decide +kernel))
theorem kwL_X7_50 : Cond.classLink RX7 50 RX5 ∈ q_tw := (q_in (q_t1 (List.mem_of_getElem? (i := 39) (by decide +kernel))) (by decide +kernel))
theorem kwL_X5_15 : Cond.classLink RX5 15 ("[" ++ (FieldType.array .int).toString) ∈ q_tw := (q_in (q_t1 (List.mem_of_getElem? (i := 45) (by decide +kernel))) (by decide +kernel))
theorem kwL_X11_22 : Cond.classLink RX11 22 RX10 ∈ q_tw := (q_in (q_t1 (List.mem_of_getElem? (i := 157) (by decide +kernel))) (by decide +kernel))
theorem kwL_X11_32 : Cond.classLink RX11 32 RX2 ∈ q_tw := (q_in (q_t1 (List.mem_of_getElem? (i := 212) (by decide +kernel))) (by decide +kernel))
theorem kwL_X11_39 : Cond.classLink RX11 39 RX3 ∈ q_tw := (q_in (q_t1 (List.mem_of_getElem? (i := 238) (by decide +kernel))) (by decide +kernel))
theorem kwL_X11_46 : Cond.classLink RX11 46 RX6 ∈ q_tw := (q_in (q_t2 (List.mem_of_getElem? (i := 17) (by decide +kernel))) (by decide +kernel))
theorem kwL_X11_53 : Cond.classLink RX11 53 RX0 ∈ q_tw := (q_in (q_t2 (List.mem_of_getElem? (i := 36) (by decide +kernel))) (by decide +kernel))
theorem kwL_X0_15 : Cond.classLink RX0 15 RX10 ∈ q_tw := (q_in (q_t2 (List.mem_of_getElem? (i := 42) (by decide +kernel))) (by decide +kernel))
theorem kwL_X11_60 : Cond.classLink RX11 60 RX8 ∈ q_tw := (q_in (q_t2 (List.mem_of_getElem? (i := 59) (by decide +kernel))) (by decide +kernel))
theorem kwL_X8_9 : Cond.classLink RX8 9 RX10 ∈ q_tw := (q_in (q_t2 (List.mem_of_getElem? (i := 65) (by decide +kernel))) (by decide +kernel))
theorem kwL_X8_18 : Cond.classLink RX8 18 RX2 ∈ q_tw := (q_in (q_t2 (List.mem_of_getElem? (i := 67) (by decide +kernel))) (by decide +kernel))
theorem kwL_X8_25 : Cond.classLink RX8 25 RX5 ∈ q_tw := (q_in (q_t2 (List.mem_of_getElem? (i := 69) (by decide +kernel))) (by decide +kernel))
theorem kwL_X8_32 : Cond.classLink RX8 32 ("[" ++ (FieldType.array .int).toString) ∈ q_tw := (q_in (q_t2 (List.mem_of_getElem? (i := 71) (by decide +kernel))) (by decide +kernel))
theorem kwL_X11_67 : Cond.classLink RX11 67 RX1 ∈ q_tw := (q_in (q_t2 (List.mem_of_getElem? (i := 101) (by decide +kernel))) (by decide +kernel))
theorem kwL_X11_74 : Cond.classLink RX11 74 RX9 ∈ q_tw := (q_in (q_t2 (List.mem_of_getElem? (i := 120) (by decide +kernel))) (by decide +kernel))
theorem kwL_X11_81 : Cond.classLink RX11 81 RX4 ∈ q_tw := (q_in (q_t2 (List.mem_of_getElem? (i := 153) (by decide +kernel))) (by decide +kernel))
theorem kwL_L_115 : Cond.classLink RL 115 RX12 ∈ q_tw := (q_in (q_t6 (List.mem_of_getElem? (i := 8) (by decide +kernel))) (by decide +kernel))
set_option maxRecDepth 20000 in
set_option maxHeartbeats 2000000 in
theorem kX5_35 {G : q_G} {h : q_H} : q_W G mX5_init 1 6 28 (kP h 35 42) 0 (q_ent mX5_init [.ref 35]) [] 36 (va_up h 35 (.inr (5, [.null, .null]))) := by
  show q_W G mX5_init 1 6 28 _ 0 [some (.ref 35)] [] 36 _
  refine r_aload_n dX5_init_0 rfl rfl ?_
  refine r_objInit dX5_init_1 kwO_X5 kwO_inst kwO_code (by decide) (Nat.le_of_ble_eq_true rfl) ?_
  refine r_aload_n dX5_init_4 rfl rfl ?_
  refine r_iconst (v := 4) dX5_init_5 (by decide) ?_
  refine r_newa (t := 0) (N := 4) (ty := .int) (b := (4, .inl (fun _ => 0))) dX5_init_6 rfl (fun _ => rfl) (fun CC q => by cases q) kwA_int (fun _ => rfl) (fun f q => by cases q) (by decide) (by decide) (by decide) (by decide) (by decide) (by decide) ?_
  refine r_putF dX5_init_8 gX5_9 rfl ⟨_, _, rfl⟩ (by decide) rfl (by decide) (fun a => ⟨rfl, rfl⟩) (by decide) ?_
  refine r_aload_n dX5_init_11 rfl rfl ?_
  refine r_iconst (v := 4) dX5_init_12 (by decide) ?_
  refine r_iconst (v := 5) dX5_init_13 (by decide) ?_
  refine r_mna (N := 4) (K' := 5) dX5_init_14 kwL_X5_15 kwA_int (by decide) (by decide) (by decide) (by decide) (by decide) (by decide) (by decide) (by decide) (by decide) (by decide) ?_
  refine r_putF dX5_init_18 gX5_17 rfl ⟨_, _, rfl⟩ (by decide) rfl (by decide) (fun a => ⟨rfl, rfl⟩) (by decide) ?_
  refine r_vret dX5_init_21 rfl ⟨rfl, rfl, fun k hk => ?_⟩
  by_cases h1 : k < 35
  · refine (va_up_n (by omega)).trans ?_
    refine (mn_lt (by omega)).trans ?_
    refine (va_up_n (by omega)).trans ?_
    refine (va_up_n (by omega)).trans ?_
    refine (va_up_n (by omega)).trans ?_
    exact (kh_lt h1).symm
  rcases (show k = 35 ∨ k = 36 ∨ k = 37 ∨ k = 38 ∨ k = 39 ∨ k = 40 ∨ k = 41 by omega) with rfl | rfl | rfl | rfl | rfl | rfl | rfl
  · rfl
  · rfl
  · rfl
  · rfl
  · rfl
  · rfl
  · rfl
set_option maxRecDepth 20000 in
set_option maxHeartbeats 2000000 in
theorem kX5_76 {G : q_G} {h : q_H} : q_W G mX5_init 1 6 28 (kP h 76 83) 0 (q_ent mX5_init [.ref 76]) [] 77 (va_up h 76 (.inr (5, [.null, .null]))) := by
  show q_W G mX5_init 1 6 28 _ 0 [some (.ref 76)] [] 77 _
  refine r_aload_n dX5_init_0 rfl rfl ?_
  refine r_objInit dX5_init_1 kwO_X5 kwO_inst kwO_code (by decide) (Nat.le_of_ble_eq_true rfl) ?_
  refine r_aload_n dX5_init_4 rfl rfl ?_
  refine r_iconst (v := 4) dX5_init_5 (by decide) ?_
  refine r_newa (t := 0) (N := 4) (ty := .int) (b := (4, .inl (fun _ => 0))) dX5_init_6 rfl (fun _ => rfl) (fun CC q => by cases q) kwA_int (fun _ => rfl) (fun f q => by cases q) (by decide) (by decide) (by decide) (by decide) (by decide) (by decide) ?_
  refine r_putF dX5_init_8 gX5_9 rfl ⟨_, _, rfl⟩ (by decide) rfl (by decide) (fun a => ⟨rfl, rfl⟩) (by decide) ?_
  refine r_aload_n dX5_init_11 rfl rfl ?_
  refine r_iconst (v := 4) dX5_init_12 (by decide) ?_
  refine r_iconst (v := 5) dX5_init_13 (by decide) ?_
  refine r_mna (N := 4) (K' := 5) dX5_init_14 kwL_X5_15 kwA_int (by decide) (by decide) (by decide) (by decide) (by decide) (by decide) (by decide) (by decide) (by decide) (by decide) ?_
  refine r_putF dX5_init_18 gX5_17 rfl ⟨_, _, rfl⟩ (by decide) rfl (by decide) (fun a => ⟨rfl, rfl⟩) (by decide) ?_
  refine r_vret dX5_init_21 rfl ⟨rfl, rfl, fun k hk => ?_⟩
  by_cases h1 : k < 76
  · refine (va_up_n (by omega)).trans ?_
    refine (mn_lt (by omega)).trans ?_
    refine (va_up_n (by omega)).trans ?_
    refine (va_up_n (by omega)).trans ?_
    refine (va_up_n (by omega)).trans ?_
    exact (kh_lt h1).symm
  rcases (show k = 76 ∨ k = 77 ∨ k = 78 ∨ k = 79 ∨ k = 80 ∨ k = 81 ∨ k = 82 by omega) with rfl | rfl | rfl | rfl | rfl | rfl | rfl
  · rfl
  · rfl
  · rfl
  · rfl
  · rfl
  · rfl
  · rfl
set_option maxRecDepth 20000 in
set_option maxHeartbeats 2000000 in
theorem kX5_117 {G : q_G} {h : q_H} : q_W G mX5_init 1 6 28 (kP h 117 124) 0 (q_ent mX5_init [.ref 117]) [] 118 (va_up h 117 (.inr (5, [.null, .null]))) := by
  show q_W G mX5_init 1 6 28 _ 0 [some (.ref 117)] [] 118 _
  refine r_aload_n dX5_init_0 rfl rfl ?_
  refine r_objInit dX5_init_1 kwO_X5 kwO_inst kwO_code (by decide) (Nat.le_of_ble_eq_true rfl) ?_
  refine r_aload_n dX5_init_4 rfl rfl ?_
  refine r_iconst (v := 4) dX5_init_5 (by decide) ?_
  refine r_newa (t := 0) (N := 4) (ty := .int) (b := (4, .inl (fun _ => 0))) dX5_init_6 rfl (fun _ => rfl) (fun CC q => by cases q) kwA_int (fun _ => rfl) (fun f q => by cases q) (by decide) (by decide) (by decide) (by decide) (by decide) (by decide) ?_
  refine r_putF dX5_init_8 gX5_9 rfl ⟨_, _, rfl⟩ (by decide) rfl (by decide) (fun a => ⟨rfl, rfl⟩) (by decide) ?_
  refine r_aload_n dX5_init_11 rfl rfl ?_
  refine r_iconst (v := 4) dX5_init_12 (by decide) ?_
  refine r_iconst (v := 5) dX5_init_13 (by decide) ?_
  refine r_mna (N := 4) (K' := 5) dX5_init_14 kwL_X5_15 kwA_int (by decide) (by decide) (by decide) (by decide) (by decide) (by decide) (by decide) (by decide) (by decide) (by decide) ?_
  refine r_putF dX5_init_18 gX5_17 rfl ⟨_, _, rfl⟩ (by decide) rfl (by decide) (fun a => ⟨rfl, rfl⟩) (by decide) ?_
  refine r_vret dX5_init_21 rfl ⟨rfl, rfl, fun k hk => ?_⟩
  by_cases h1 : k < 117
  · refine (va_up_n (by omega)).trans ?_
    refine (mn_lt (by omega)).trans ?_
    refine (va_up_n (by omega)).trans ?_
    refine (va_up_n (by omega)).trans ?_
    refine (va_up_n (by omega)).trans ?_
    exact (kh_lt h1).symm
  rcases (show k = 117 ∨ k = 118 ∨ k = 119 ∨ k = 120 ∨ k = 121 ∨ k = 122 ∨ k = 123 by omega) with rfl | rfl | rfl | rfl | rfl | rfl | rfl
  · rfl
  · rfl
  · rfl
  · rfl
  · rfl
  · rfl
  · rfl
set_option maxRecDepth 20000 in
set_option maxHeartbeats 2000000 in
theorem kX5_174 {G : q_G} {h : q_H} : q_W G mX5_init 1 6 28 (kP h 174 181) 0 (q_ent mX5_init [.ref 174]) [] 175 (va_up h 174 (.inr (5, [.null, .null]))) := by
  show q_W G mX5_init 1 6 28 _ 0 [some (.ref 174)] [] 175 _
  refine r_aload_n dX5_init_0 rfl rfl ?_
  refine r_objInit dX5_init_1 kwO_X5 kwO_inst kwO_code (by decide) (Nat.le_of_ble_eq_true rfl) ?_
  refine r_aload_n dX5_init_4 rfl rfl ?_
  refine r_iconst (v := 4) dX5_init_5 (by decide) ?_
  refine r_newa (t := 0) (N := 4) (ty := .int) (b := (4, .inl (fun _ => 0))) dX5_init_6 rfl (fun _ => rfl) (fun CC q => by cases q) kwA_int (fun _ => rfl) (fun f q => by cases q) (by decide) (by decide) (by decide) (by decide) (by decide) (by decide) ?_
  refine r_putF dX5_init_8 gX5_9 rfl ⟨_, _, rfl⟩ (by decide) rfl (by decide) (fun a => ⟨rfl, rfl⟩) (by decide) ?_
  refine r_aload_n dX5_init_11 rfl rfl ?_
  refine r_iconst (v := 4) dX5_init_12 (by decide) ?_
  refine r_iconst (v := 5) dX5_init_13 (by decide) ?_
  refine r_mna (N := 4) (K' := 5) dX5_init_14 kwL_X5_15 kwA_int (by decide) (by decide) (by decide) (by decide) (by decide) (by decide) (by decide) (by decide) (by decide) (by decide) ?_
  refine r_putF dX5_init_18 gX5_17 rfl ⟨_, _, rfl⟩ (by decide) rfl (by decide) (fun a => ⟨rfl, rfl⟩) (by decide) ?_
  refine r_vret dX5_init_21 rfl ⟨rfl, rfl, fun k hk => ?_⟩
  by_cases h1 : k < 174
  · refine (va_up_n (by omega)).trans ?_
    refine (mn_lt (by omega)).trans ?_
    refine (va_up_n (by omega)).trans ?_
    refine (va_up_n (by omega)).trans ?_
    refine (va_up_n (by omega)).trans ?_
    exact (kh_lt h1).symm
  rcases (show k = 174 ∨ k = 175 ∨ k = 176 ∨ k = 177 ∨ k = 178 ∨ k = 179 ∨ k = 180 by omega) with rfl | rfl | rfl | rfl | rfl | rfl | rfl
  · rfl
  · rfl
  · rfl
  · rfl
  · rfl
  · rfl
  · rfl
set_option maxRecDepth 20000 in
set_option maxHeartbeats 2000000 in
theorem kX7_1 {G : q_G} {h : q_H} : q_W G mX7_init 2 40 228 (kP h 1 42) 0 (q_ent mX7_init [.ref 1]) [] 2 (va_up h 1 (.inr (7, [.int 0, .int 0, .null, .null, .null, .null, .null, .null, .null, .null, .null, .null, .null, .null, .null]))) := by
  show q_W G mX7_init 2 40 228 _ 0 [some (.ref 1)] [] 2 _
  refine r_aload_n dX7_init_0 rfl rfl ?_
  refine r_objInit dX7_init_1 kwO_X7 kwO_inst kwO_code (by decide) (Nat.le_of_ble_eq_true rfl) ?_
  refine r_aload_n dX7_init_4 rfl rfl ?_
  refine r_iconst (v := 5) dX7_init_5 (by decide) ?_
  refine r_iconst (v := 3) dX7_init_6 (by decide) ?_
  refine r_mna (N := 5) (K' := 3) dX7_init_7 kwL_X7_9 kwA_int (by decide) (by decide) (by decide) (by decide) (by decide) (by decide) (by decide) (by decide) (by decide) (by decide) ?_
  refine r_putF dX7_init_11 gX7_11 rfl ⟨_, _, rfl⟩ (by decide) rfl (by decide) (fun a => ⟨rfl, rfl⟩) (by decide) ?_
  refine r_aload_n dX7_init_14 rfl rfl ?_
  refine r_iconst (v := 5) dX7_init_15 (by decide) ?_
  refine r_newa (t := 0) (N := 5) (ty := .int) (b := (5, .inl (fun _ => 0))) dX7_init_16 rfl (fun _ => rfl) (fun CC q => by cases q) kwA_int (fun _ => rfl) (fun f q => by cases q) (by decide) (by decide) (by decide) (by decide) (by decide) (by decide) ?_
  refine r_putF dX7_init_18 gX7_16 rfl ⟨_, _, rfl⟩ (by decide) rfl (by decide) (fun a => ⟨rfl, rfl⟩) (by decide) ?_
  refine r_aload_n dX7_init_21 rfl rfl ?_
  refine r_iconst (v := 5) dX7_init_22 (by decide) ?_
  refine r_iconst (v := 4) dX7_init_23 (by decide) ?_
  refine r_mna (N := 5) (K' := 4) dX7_init_24 kwL_X7_9 kwA_int (by decide) (by decide) (by decide) (by decide) (by decide) (by decide) (by decide) (by decide) (by decide) (by decide) ?_
  refine r_putF dX7_init_28 gX7_20 rfl ⟨_, _, rfl⟩ (by decide) rfl (by decide) (fun a => ⟨rfl, rfl⟩) (by decide) ?_
  refine r_aload_n dX7_init_31 rfl rfl ?_
  refine r_bipush (v := 20) dX7_init_32 (by decide) ?_
  refine r_newa (t := 0) (N := 20) (ty := .int) (b := (20, .inl (fun _ => 0))) dX7_init_34 rfl (fun _ => rfl) (fun CC q => by cases q) kwA_int (fun _ => rfl) (fun f q => by cases q) (by decide) (by decide) (by decide) (by decide) (by decide) (by decide) ?_
  refine r_putF dX7_init_36 gX7_23 rfl ⟨_, _, rfl⟩ (by decide) rfl (by decide) (fun a => ⟨rfl, rfl⟩) (by decide) ?_
  refine r_aload_n dX7_init_39 rfl rfl ?_
  refine r_bipush (v := 20) dX7_init_40 (by decide) ?_
  refine r_newa (t := 0) (N := 20) (ty := .int) (b := (20, .inl (fun _ => 0))) dX7_init_42 rfl (fun _ => rfl) (fun CC q => by cases q) kwA_int (fun _ => rfl) (fun f q => by cases q) (by decide) (by decide) (by decide) (by decide) (by decide) (by decide) ?_
  refine r_putF dX7_init_44 gX7_26 rfl ⟨_, _, rfl⟩ (by decide) rfl (by decide) (fun a => ⟨rfl, rfl⟩) (by decide) ?_
  refine r_aload_n dX7_init_47 rfl rfl ?_
  refine r_bipush (v := 20) dX7_init_48 (by decide) ?_
  refine r_newa (t := 0) (N := 20) (ty := .int) (b := (20, .inl (fun _ => 0))) dX7_init_50 rfl (fun _ => rfl) (fun CC q => by cases q) kwA_int (fun _ => rfl) (fun f q => by cases q) (by decide) (by decide) (by decide) (by decide) (by decide) (by decide) ?_
  refine r_putF dX7_init_52 gX7_29 rfl ⟨_, _, rfl⟩ (by decide) rfl (by decide) (fun a => ⟨rfl, rfl⟩) (by decide) ?_
  refine r_aload_n dX7_init_55 rfl rfl ?_
  refine r_bipush (v := 20) dX7_init_56 (by decide) ?_
  refine r_newa (t := 0) (N := 20) (ty := .int) (b := (20, .inl (fun _ => 0))) dX7_init_58 rfl (fun _ => rfl) (fun CC q => by cases q) kwA_int (fun _ => rfl) (fun f q => by cases q) (by decide) (by decide) (by decide) (by decide) (by decide) (by decide) ?_
  refine r_putF dX7_init_60 gX7_32 rfl ⟨_, _, rfl⟩ (by decide) rfl (by decide) (fun a => ⟨rfl, rfl⟩) (by decide) ?_
  refine r_aload_n dX7_init_63 rfl rfl ?_
  refine r_bipush (v := 20) dX7_init_64 (by decide) ?_
  refine r_newa (t := 0) (N := 20) (ty := .int) (b := (20, .inl (fun _ => 0))) dX7_init_66 rfl (fun _ => rfl) (fun CC q => by cases q) kwA_int (fun _ => rfl) (fun f q => by cases q) (by decide) (by decide) (by decide) (by decide) (by decide) (by decide) ?_
  refine r_putF dX7_init_68 gX7_35 rfl ⟨_, _, rfl⟩ (by decide) rfl (by decide) (fun a => ⟨rfl, rfl⟩) (by decide) ?_
  refine r_aload_n dX7_init_71 rfl rfl ?_
  refine r_iconst (v := 3) dX7_init_72 (by decide) ?_
  refine r_iconst (v := 3) dX7_init_73 (by decide) ?_
  refine r_mna (N := 3) (K' := 3) dX7_init_74 kwL_X7_9 kwA_int (by decide) (by decide) (by decide) (by decide) (by decide) (by decide) (by decide) (by decide) (by decide) (by decide) ?_
  refine r_putF dX7_init_78 gX7_38 rfl ⟨_, _, rfl⟩ (by decide) rfl (by decide) (fun a => ⟨rfl, rfl⟩) (by decide) ?_
  refine r_aload_n dX7_init_81 rfl rfl ?_
  refine r_iconst (v := 4) dX7_init_82 (by decide) ?_
  refine r_newa (t := 0) (N := 4) (ty := .int) (b := (4, .inl (fun _ => 0))) dX7_init_83 rfl (fun _ => rfl) (fun CC q => by cases q) kwA_int (fun _ => rfl) (fun f q => by cases q) (by decide) (by decide) (by decide) (by decide) (by decide) (by decide) ?_
  refine r_putF dX7_init_85 gX7_41 rfl ⟨_, _, rfl⟩ (by decide) rfl (by decide) (fun a => ⟨rfl, rfl⟩) (by decide) ?_
  refine r_aload_n dX7_init_88 rfl rfl ?_
  refine r_iconst (v := 4) dX7_init_89 (by decide) ?_
  refine r_iconst (v := 3) dX7_init_90 (by decide) ?_
  refine r_mna (N := 4) (K' := 3) dX7_init_91 kwL_X7_9 kwA_int (by decide) (by decide) (by decide) (by decide) (by decide) (by decide) (by decide) (by decide) (by decide) (by decide) ?_
  refine r_putF dX7_init_95 gX7_44 rfl ⟨_, _, rfl⟩ (by decide) rfl (by decide) (fun a => ⟨rfl, rfl⟩) (by decide) ?_
  refine r_aload_n dX7_init_98 rfl rfl ?_
  refine r_iconst (v := 4) dX7_init_99 (by decide) ?_
  refine r_iconst (v := 3) dX7_init_100 (by decide) ?_
  refine r_mna (N := 4) (K' := 3) dX7_init_101 kwL_X7_9 kwA_int (by decide) (by decide) (by decide) (by decide) (by decide) (by decide) (by decide) (by decide) (by decide) (by decide) ?_
  refine r_putF dX7_init_105 gX7_47 rfl ⟨_, _, rfl⟩ (by decide) rfl (by decide) (fun a => ⟨rfl, rfl⟩) (by decide) ?_
  refine r_aload_n dX7_init_108 rfl rfl ?_
  refine k_newX5 dX7_init_109 kwL_X7_50 (by decide) (by decide) (by decide) ?_
  refine r_dup dX7_init_112 rfl ?_
  refine k_call mX5_init (m := 42) dX7_init_113 okX5_init (Or.inr lX7_52) npX5_init (by decide) (by decide) (by decide) (Nat.le_of_ble_eq_true rfl) (Nat.le_of_ble_eq_true rfl) kX5_35 ?_
  refine r_putF dX7_init_116 gX7_53 rfl ⟨_, _, rfl⟩ (by decide) rfl (by decide) (fun a => ⟨rfl, rfl⟩) (by decide) ?_
  refine r_vret dX7_init_119 rfl ⟨rfl, rfl, fun k hk => ?_⟩
  by_cases h1 : k < 1
  · refine (va_up_n (by omega)).trans ?_
    refine (kh_lt (by omega)).trans ?_
    refine (va_up_n (by omega)).trans ?_
    refine (mn_lt (by omega)).trans ?_
    refine (va_up_n (by omega)).trans ?_
    refine (mn_lt (by omega)).trans ?_
    refine (va_up_n (by omega)).trans ?_
    refine (va_up_n (by omega)).trans ?_
    refine (va_up_n (by omega)).trans ?_
    refine (mn_lt (by omega)).trans ?_
    refine (va_up_n (by omega)).trans ?_
    refine (va_up_n (by omega)).trans ?_
    refine (va_up_n (by omega)).trans ?_
    refine (va_up_n (by omega)).trans ?_
    refine (va_up_n (by omega)).trans ?_
    refine (va_up_n (by omega)).trans ?_
    refine (va_up_n (by omega)).trans ?_
    refine (va_up_n (by omega)).trans ?_
    refine (va_up_n (by omega)).trans ?_
    refine (va_up_n (by omega)).trans ?_
    refine (va_up_n (by omega)).trans ?_
    refine (mn_lt (by omega)).trans ?_
    refine (va_up_n (by omega)).trans ?_
    refine (va_up_n (by omega)).trans ?_
    refine (va_up_n (by omega)).trans ?_
    refine (mn_lt (by omega)).trans ?_
    refine (va_up_n (by omega)).trans ?_
    exact (kh_lt h1).symm
  rcases (show k = 1 ∨ k = 2 ∨ k = 3 ∨ k = 4 ∨ k = 5 ∨ k = 6 ∨ k = 7 ∨ k = 8 ∨ k = 9 ∨ k = 10 ∨ k = 11 ∨ k = 12 ∨ k = 13 ∨ k = 14 ∨ k = 15 ∨ k = 16 ∨ k = 17 ∨ k = 18 ∨ k = 19 ∨ k = 20 ∨ k = 21 ∨ k = 22 ∨ k = 23 ∨ k = 24 ∨ k = 25 ∨ k = 26 ∨ k = 27 ∨ k = 28 ∨ k = 29 ∨ k = 30 ∨ k = 31 ∨ k = 32 ∨ k = 33 ∨ k = 34 ∨ k = 35 ∨ k = 36 ∨ k = 37 ∨ k = 38 ∨ k = 39 ∨ k = 40 ∨ k = 41 by omega) with rfl | rfl | rfl | rfl | rfl | rfl | rfl | rfl | rfl | rfl | rfl | rfl | rfl | rfl | rfl | rfl | rfl | rfl | rfl | rfl | rfl | rfl | rfl | rfl | rfl | rfl | rfl | rfl | rfl | rfl | rfl | rfl | rfl | rfl | rfl | rfl | rfl | rfl | rfl | rfl | rfl
  · rfl
  · rfl
  · rfl
  · rfl
  · rfl
  · rfl
  · rfl
  · rfl
  · rfl
  · rfl
  · rfl
  · rfl
  · rfl
  · rfl
  · rfl
  · rfl
  · rfl
  · rfl
  · rfl
  · rfl
  · rfl
  · rfl
  · rfl
  · rfl
  · rfl
  · rfl
  · rfl
  · rfl
  · rfl
  · rfl
  · rfl
  · rfl
  · rfl
  · rfl
  · rfl
  · rfl
  · rfl
  · rfl
  · rfl
  · rfl
  · rfl
set_option maxRecDepth 20000 in
set_option maxHeartbeats 2000000 in
theorem kX7_42 {G : q_G} {h : q_H} : q_W G mX7_init 2 40 228 (kP h 42 83) 0 (q_ent mX7_init [.ref 42]) [] 43 (va_up h 42 (.inr (7, [.int 0, .int 0, .null, .null, .null, .null, .null, .null, .null, .null, .null, .null, .null, .null, .null]))) := by
  show q_W G mX7_init 2 40 228 _ 0 [some (.ref 42)] [] 43 _
  refine r_aload_n dX7_init_0 rfl rfl ?_
  refine r_objInit dX7_init_1 kwO_X7 kwO_inst kwO_code (by decide) (Nat.le_of_ble_eq_true rfl) ?_
  refine r_aload_n dX7_init_4 rfl rfl ?_
  refine r_iconst (v := 5) dX7_init_5 (by decide) ?_
  refine r_iconst (v := 3) dX7_init_6 (by decide) ?_
  refine r_mna (N := 5) (K' := 3) dX7_init_7 kwL_X7_9 kwA_int (by decide) (by decide) (by decide) (by decide) (by decide) (by decide) (by decide) (by decide) (by decide) (by decide) ?_
  refine r_putF dX7_init_11 gX7_11 rfl ⟨_, _, rfl⟩ (by decide) rfl (by decide) (fun a => ⟨rfl, rfl⟩) (by decide) ?_
  refine r_aload_n dX7_init_14 rfl rfl ?_
  refine r_iconst (v := 5) dX7_init_15 (by decide) ?_
  refine r_newa (t := 0) (N := 5) (ty := .int) (b := (5, .inl (fun _ => 0))) dX7_init_16 rfl (fun _ => rfl) (fun CC q => by cases q) kwA_int (fun _ => rfl) (fun f q => by cases q) (by decide) (by decide) (by decide) (by decide) (by decide) (by decide) ?_
  refine r_putF dX7_init_18 gX7_16 rfl ⟨_, _, rfl⟩ (by decide) rfl (by decide) (fun a => ⟨rfl, rfl⟩) (by decide) ?_
  refine r_aload_n dX7_init_21 rfl rfl ?_
  refine r_iconst (v := 5) dX7_init_22 (by decide) ?_
  refine r_iconst (v := 4) dX7_init_23 (by decide) ?_
  refine r_mna (N := 5) (K' := 4) dX7_init_24 kwL_X7_9 kwA_int (by decide) (by decide) (by decide) (by decide) (by decide) (by decide) (by decide) (by decide) (by decide) (by decide) ?_
  refine r_putF dX7_init_28 gX7_20 rfl ⟨_, _, rfl⟩ (by decide) rfl (by decide) (fun a => ⟨rfl, rfl⟩) (by decide) ?_
  refine r_aload_n dX7_init_31 rfl rfl ?_
  refine r_bipush (v := 20) dX7_init_32 (by decide) ?_
  refine r_newa (t := 0) (N := 20) (ty := .int) (b := (20, .inl (fun _ => 0))) dX7_init_34 rfl (fun _ => rfl) (fun CC q => by cases q) kwA_int (fun _ => rfl) (fun f q => by cases q) (by decide) (by decide) (by decide) (by decide) (by decide) (by decide) ?_
  refine r_putF dX7_init_36 gX7_23 rfl ⟨_, _, rfl⟩ (by decide) rfl (by decide) (fun a => ⟨rfl, rfl⟩) (by decide) ?_
  refine r_aload_n dX7_init_39 rfl rfl ?_
  refine r_bipush (v := 20) dX7_init_40 (by decide) ?_
  refine r_newa (t := 0) (N := 20) (ty := .int) (b := (20, .inl (fun _ => 0))) dX7_init_42 rfl (fun _ => rfl) (fun CC q => by cases q) kwA_int (fun _ => rfl) (fun f q => by cases q) (by decide) (by decide) (by decide) (by decide) (by decide) (by decide) ?_
  refine r_putF dX7_init_44 gX7_26 rfl ⟨_, _, rfl⟩ (by decide) rfl (by decide) (fun a => ⟨rfl, rfl⟩) (by decide) ?_
  refine r_aload_n dX7_init_47 rfl rfl ?_
  refine r_bipush (v := 20) dX7_init_48 (by decide) ?_
  refine r_newa (t := 0) (N := 20) (ty := .int) (b := (20, .inl (fun _ => 0))) dX7_init_50 rfl (fun _ => rfl) (fun CC q => by cases q) kwA_int (fun _ => rfl) (fun f q => by cases q) (by decide) (by decide) (by decide) (by decide) (by decide) (by decide) ?_
  refine r_putF dX7_init_52 gX7_29 rfl ⟨_, _, rfl⟩ (by decide) rfl (by decide) (fun a => ⟨rfl, rfl⟩) (by decide) ?_
  refine r_aload_n dX7_init_55 rfl rfl ?_
  refine r_bipush (v := 20) dX7_init_56 (by decide) ?_
  refine r_newa (t := 0) (N := 20) (ty := .int) (b := (20, .inl (fun _ => 0))) dX7_init_58 rfl (fun _ => rfl) (fun CC q => by cases q) kwA_int (fun _ => rfl) (fun f q => by cases q) (by decide) (by decide) (by decide) (by decide) (by decide) (by decide) ?_
  refine r_putF dX7_init_60 gX7_32 rfl ⟨_, _, rfl⟩ (by decide) rfl (by decide) (fun a => ⟨rfl, rfl⟩) (by decide) ?_
  refine r_aload_n dX7_init_63 rfl rfl ?_
  refine r_bipush (v := 20) dX7_init_64 (by decide) ?_
  refine r_newa (t := 0) (N := 20) (ty := .int) (b := (20, .inl (fun _ => 0))) dX7_init_66 rfl (fun _ => rfl) (fun CC q => by cases q) kwA_int (fun _ => rfl) (fun f q => by cases q) (by decide) (by decide) (by decide) (by decide) (by decide) (by decide) ?_
  refine r_putF dX7_init_68 gX7_35 rfl ⟨_, _, rfl⟩ (by decide) rfl (by decide) (fun a => ⟨rfl, rfl⟩) (by decide) ?_
  refine r_aload_n dX7_init_71 rfl rfl ?_
  refine r_iconst (v := 3) dX7_init_72 (by decide) ?_
  refine r_iconst (v := 3) dX7_init_73 (by decide) ?_
  refine r_mna (N := 3) (K' := 3) dX7_init_74 kwL_X7_9 kwA_int (by decide) (by decide) (by decide) (by decide) (by decide) (by decide) (by decide) (by decide) (by decide) (by decide) ?_
  refine r_putF dX7_init_78 gX7_38 rfl ⟨_, _, rfl⟩ (by decide) rfl (by decide) (fun a => ⟨rfl, rfl⟩) (by decide) ?_
  refine r_aload_n dX7_init_81 rfl rfl ?_
  refine r_iconst (v := 4) dX7_init_82 (by decide) ?_
  refine r_newa (t := 0) (N := 4) (ty := .int) (b := (4, .inl (fun _ => 0))) dX7_init_83 rfl (fun _ => rfl) (fun CC q => by cases q) kwA_int (fun _ => rfl) (fun f q => by cases q) (by decide) (by decide) (by decide) (by decide) (by decide) (by decide) ?_
  refine r_putF dX7_init_85 gX7_41 rfl ⟨_, _, rfl⟩ (by decide) rfl (by decide) (fun a => ⟨rfl, rfl⟩) (by decide) ?_
  refine r_aload_n dX7_init_88 rfl rfl ?_
  refine r_iconst (v := 4) dX7_init_89 (by decide) ?_
  refine r_iconst (v := 3) dX7_init_90 (by decide) ?_
  refine r_mna (N := 4) (K' := 3) dX7_init_91 kwL_X7_9 kwA_int (by decide) (by decide) (by decide) (by decide) (by decide) (by decide) (by decide) (by decide) (by decide) (by decide) ?_
  refine r_putF dX7_init_95 gX7_44 rfl ⟨_, _, rfl⟩ (by decide) rfl (by decide) (fun a => ⟨rfl, rfl⟩) (by decide) ?_
  refine r_aload_n dX7_init_98 rfl rfl ?_
  refine r_iconst (v := 4) dX7_init_99 (by decide) ?_
  refine r_iconst (v := 3) dX7_init_100 (by decide) ?_
  refine r_mna (N := 4) (K' := 3) dX7_init_101 kwL_X7_9 kwA_int (by decide) (by decide) (by decide) (by decide) (by decide) (by decide) (by decide) (by decide) (by decide) (by decide) ?_
  refine r_putF dX7_init_105 gX7_47 rfl ⟨_, _, rfl⟩ (by decide) rfl (by decide) (fun a => ⟨rfl, rfl⟩) (by decide) ?_
  refine r_aload_n dX7_init_108 rfl rfl ?_
  refine k_newX5 dX7_init_109 kwL_X7_50 (by decide) (by decide) (by decide) ?_
  refine r_dup dX7_init_112 rfl ?_
  refine k_call mX5_init (m := 83) dX7_init_113 okX5_init (Or.inr lX7_52) npX5_init (by decide) (by decide) (by decide) (Nat.le_of_ble_eq_true rfl) (Nat.le_of_ble_eq_true rfl) kX5_76 ?_
  refine r_putF dX7_init_116 gX7_53 rfl ⟨_, _, rfl⟩ (by decide) rfl (by decide) (fun a => ⟨rfl, rfl⟩) (by decide) ?_
  refine r_vret dX7_init_119 rfl ⟨rfl, rfl, fun k hk => ?_⟩
  by_cases h1 : k < 42
  · refine (va_up_n (by omega)).trans ?_
    refine (kh_lt (by omega)).trans ?_
    refine (va_up_n (by omega)).trans ?_
    refine (mn_lt (by omega)).trans ?_
    refine (va_up_n (by omega)).trans ?_
    refine (mn_lt (by omega)).trans ?_
    refine (va_up_n (by omega)).trans ?_
    refine (va_up_n (by omega)).trans ?_
    refine (va_up_n (by omega)).trans ?_
    refine (mn_lt (by omega)).trans ?_
    refine (va_up_n (by omega)).trans ?_
    refine (va_up_n (by omega)).trans ?_
    refine (va_up_n (by omega)).trans ?_
    refine (va_up_n (by omega)).trans ?_
    refine (va_up_n (by omega)).trans ?_
    refine (va_up_n (by omega)).trans ?_
    refine (va_up_n (by omega)).trans ?_
    refine (va_up_n (by omega)).trans ?_
    refine (va_up_n (by omega)).trans ?_
    refine (va_up_n (by omega)).trans ?_
    refine (va_up_n (by omega)).trans ?_
    refine (mn_lt (by omega)).trans ?_
    refine (va_up_n (by omega)).trans ?_
    refine (va_up_n (by omega)).trans ?_
    refine (va_up_n (by omega)).trans ?_
    refine (mn_lt (by omega)).trans ?_
    refine (va_up_n (by omega)).trans ?_
    exact (kh_lt h1).symm
  rcases (show k = 42 ∨ k = 43 ∨ k = 44 ∨ k = 45 ∨ k = 46 ∨ k = 47 ∨ k = 48 ∨ k = 49 ∨ k = 50 ∨ k = 51 ∨ k = 52 ∨ k = 53 ∨ k = 54 ∨ k = 55 ∨ k = 56 ∨ k = 57 ∨ k = 58 ∨ k = 59 ∨ k = 60 ∨ k = 61 ∨ k = 62 ∨ k = 63 ∨ k = 64 ∨ k = 65 ∨ k = 66 ∨ k = 67 ∨ k = 68 ∨ k = 69 ∨ k = 70 ∨ k = 71 ∨ k = 72 ∨ k = 73 ∨ k = 74 ∨ k = 75 ∨ k = 76 ∨ k = 77 ∨ k = 78 ∨ k = 79 ∨ k = 80 ∨ k = 81 ∨ k = 82 by omega) with rfl | rfl | rfl | rfl | rfl | rfl | rfl | rfl | rfl | rfl | rfl | rfl | rfl | rfl | rfl | rfl | rfl | rfl | rfl | rfl | rfl | rfl | rfl | rfl | rfl | rfl | rfl | rfl | rfl | rfl | rfl | rfl | rfl | rfl | rfl | rfl | rfl | rfl | rfl | rfl | rfl
  · rfl
  · rfl
  · rfl
  · rfl
  · rfl
  · rfl
  · rfl
  · rfl
  · rfl
  · rfl
  · rfl
  · rfl
  · rfl
  · rfl
  · rfl
  · rfl
  · rfl
  · rfl
  · rfl
  · rfl
  · rfl
  · rfl
  · rfl
  · rfl
  · rfl
  · rfl
  · rfl
  · rfl
  · rfl
  · rfl
  · rfl
  · rfl
  · rfl
  · rfl
  · rfl
  · rfl
  · rfl
  · rfl
  · rfl
  · rfl
  · rfl
set_option maxRecDepth 20000 in
set_option maxHeartbeats 2000000 in
theorem kX7_83 {G : q_G} {h : q_H} : q_W G mX7_init 2 40 228 (kP h 83 124) 0 (q_ent mX7_init [.ref 83]) [] 84 (va_up h 83 (.inr (7, [.int 0, .int 0, .null, .null, .null, .null, .null, .null, .null, .null, .null, .null, .null, .null, .null]))) := by
  show q_W G mX7_init 2 40 228 _ 0 [some (.ref 83)] [] 84 _
  refine r_aload_n dX7_init_0 rfl rfl ?_
  refine r_objInit dX7_init_1 kwO_X7 kwO_inst kwO_code (by decide) (Nat.le_of_ble_eq_true rfl) ?_
  refine r_aload_n dX7_init_4 rfl rfl ?_
  refine r_iconst (v := 5) dX7_init_5 (by decide) ?_
  refine r_iconst (v := 3) dX7_init_6 (by decide) ?_
  refine r_mna (N := 5) (K' := 3) dX7_init_7 kwL_X7_9 kwA_int (by decide) (by decide) (by decide) (by decide) (by decide) (by decide) (by decide) (by decide) (by decide) (by decide) ?_
  refine r_putF dX7_init_11 gX7_11 rfl ⟨_, _, rfl⟩ (by decide) rfl (by decide) (fun a => ⟨rfl, rfl⟩) (by decide) ?_
  refine r_aload_n dX7_init_14 rfl rfl ?_
  refine r_iconst (v := 5) dX7_init_15 (by decide) ?_
  refine r_newa (t := 0) (N := 5) (ty := .int) (b := (5, .inl (fun _ => 0))) dX7_init_16 rfl (fun _ => rfl) (fun CC q => by cases q) kwA_int (fun _ => rfl) (fun f q => by cases q) (by decide) (by decide) (by decide) (by decide) (by decide) (by decide) ?_
  refine r_putF dX7_init_18 gX7_16 rfl ⟨_, _, rfl⟩ (by decide) rfl (by decide) (fun a => ⟨rfl, rfl⟩) (by decide) ?_
  refine r_aload_n dX7_init_21 rfl rfl ?_
  refine r_iconst (v := 5) dX7_init_22 (by decide) ?_
  refine r_iconst (v := 4) dX7_init_23 (by decide) ?_
  refine r_mna (N := 5) (K' := 4) dX7_init_24 kwL_X7_9 kwA_int (by decide) (by decide) (by decide) (by decide) (by decide) (by decide) (by decide) (by decide) (by decide) (by decide) ?_
  refine r_putF dX7_init_28 gX7_20 rfl ⟨_, _, rfl⟩ (by decide) rfl (by decide) (fun a => ⟨rfl, rfl⟩) (by decide) ?_
  refine r_aload_n dX7_init_31 rfl rfl ?_
  refine r_bipush (v := 20) dX7_init_32 (by decide) ?_
  refine r_newa (t := 0) (N := 20) (ty := .int) (b := (20, .inl (fun _ => 0))) dX7_init_34 rfl (fun _ => rfl) (fun CC q => by cases q) kwA_int (fun _ => rfl) (fun f q => by cases q) (by decide) (by decide) (by decide) (by decide) (by decide) (by decide) ?_
  refine r_putF dX7_init_36 gX7_23 rfl ⟨_, _, rfl⟩ (by decide) rfl (by decide) (fun a => ⟨rfl, rfl⟩) (by decide) ?_
  refine r_aload_n dX7_init_39 rfl rfl ?_
  refine r_bipush (v := 20) dX7_init_40 (by decide) ?_
  refine r_newa (t := 0) (N := 20) (ty := .int) (b := (20, .inl (fun _ => 0))) dX7_init_42 rfl (fun _ => rfl) (fun CC q => by cases q) kwA_int (fun _ => rfl) (fun f q => by cases q) (by decide) (by decide) (by decide) (by decide) (by decide) (by decide) ?_
  refine r_putF dX7_init_44 gX7_26 rfl ⟨_, _, rfl⟩ (by decide) rfl (by decide) (fun a => ⟨rfl, rfl⟩) (by decide) ?_
  refine r_aload_n dX7_init_47 rfl rfl ?_
  refine r_bipush (v := 20) dX7_init_48 (by decide) ?_
  refine r_newa (t := 0) (N := 20) (ty := .int) (b := (20, .inl (fun _ => 0))) dX7_init_50 rfl (fun _ => rfl) (fun CC q => by cases q) kwA_int (fun _ => rfl) (fun f q => by cases q) (by decide) (by decide) (by decide) (by decide) (by decide) (by decide) ?_
  refine r_putF dX7_init_52 gX7_29 rfl ⟨_, _, rfl⟩ (by decide) rfl (by decide) (fun a => ⟨rfl, rfl⟩) (by decide) ?_
  refine r_aload_n dX7_init_55 rfl rfl ?_
  refine r_bipush (v := 20) dX7_init_56 (by decide) ?_
  refine r_newa (t := 0) (N := 20) (ty := .int) (b := (20, .inl (fun _ => 0))) dX7_init_58 rfl (fun _ => rfl) (fun CC q => by cases q) kwA_int (fun _ => rfl) (fun f q => by cases q) (by decide) (by decide) (by decide) (by decide) (by decide) (by decide) ?_
  refine r_putF dX7_init_60 gX7_32 rfl ⟨_, _, rfl⟩ (by decide) rfl (by decide) (fun a => ⟨rfl, rfl⟩) (by decide) ?_
  refine r_aload_n dX7_init_63 rfl rfl ?_
  refine r_bipush (v := 20) dX7_init_64 (by decide) ?_
  refine r_newa (t := 0) (N := 20) (ty := .int) (b := (20, .inl (fun _ => 0))) dX7_init_66 rfl (fun _ => rfl) (fun CC q => by cases q) kwA_int (fun _ => rfl) (fun f q => by cases q) (by decide) (by decide) (by decide) (by decide) (by decide) (by decide) ?_
  refine r_putF dX7_init_68 gX7_35 rfl ⟨_, _, rfl⟩ (by decide) rfl (by decide) (fun a => ⟨rfl, rfl⟩) (by decide) ?_
  refine r_aload_n dX7_init_71 rfl rfl ?_
  refine r_iconst (v := 3) dX7_init_72 (by decide) ?_
  refine r_iconst (v := 3) dX7_init_73 (by decide) ?_
  refine r_mna (N := 3) (K' := 3) dX7_init_74 kwL_X7_9 kwA_int (by decide) (by decide) (by decide) (by decide) (by decide) (by decide) (by decide) (by decide) (by decide) (by decide) ?_
  refine r_putF dX7_init_78 gX7_38 rfl ⟨_, _, rfl⟩ (by decide) rfl (by decide) (fun a => ⟨rfl, rfl⟩) (by decide) ?_
  refine r_aload_n dX7_init_81 rfl rfl ?_
  refine r_iconst (v := 4) dX7_init_82 (by decide) ?_
  refine r_newa (t := 0) (N := 4) (ty := .int) (b := (4, .inl (fun _ => 0))) dX7_init_83 rfl (fun _ => rfl) (fun CC q => by cases q) kwA_int (fun _ => rfl) (fun f q => by cases q) (by decide) (by decide) (by decide) (by decide) (by decide) (by decide) ?_
  refine r_putF dX7_init_85 gX7_41 rfl ⟨_, _, rfl⟩ (by decide) rfl (by decide) (fun a => ⟨rfl, rfl⟩) (by decide) ?_
  refine r_aload_n dX7_init_88 rfl rfl ?_
  refine r_iconst (v := 4) dX7_init_89 (by decide) ?_
  refine r_iconst (v := 3) dX7_init_90 (by decide) ?_
  refine r_mna (N := 4) (K' := 3) dX7_init_91 kwL_X7_9 kwA_int (by decide) (by decide) (by decide) (by decide) (by decide) (by decide) (by decide) (by decide) (by decide) (by decide) ?_
  refine r_putF dX7_init_95 gX7_44 rfl ⟨_, _, rfl⟩ (by decide) rfl (by decide) (fun a => ⟨rfl, rfl⟩) (by decide) ?_
  refine r_aload_n dX7_init_98 rfl rfl ?_
  refine r_iconst (v := 4) dX7_init_99 (by decide) ?_
  refine r_iconst (v := 3) dX7_init_100 (by decide) ?_
  refine r_mna (N := 4) (K' := 3) dX7_init_101 kwL_X7_9 kwA_int (by decide) (by decide) (by decide) (by decide) (by decide) (by decide) (by decide) (by decide) (by decide) (by decide) ?_
  refine r_putF dX7_init_105 gX7_47 rfl ⟨_, _, rfl⟩ (by decide) rfl (by decide) (fun a => ⟨rfl, rfl⟩) (by decide) ?_
  refine r_aload_n dX7_init_108 rfl rfl ?_
  refine k_newX5 dX7_init_109 kwL_X7_50 (by decide) (by decide) (by decide) ?_
  refine r_dup dX7_init_112 rfl ?_
  refine k_call mX5_init (m := 124) dX7_init_113 okX5_init (Or.inr lX7_52) npX5_init (by decide) (by decide) (by decide) (Nat.le_of_ble_eq_true rfl) (Nat.le_of_ble_eq_true rfl) kX5_117 ?_
  refine r_putF dX7_init_116 gX7_53 rfl ⟨_, _, rfl⟩ (by decide) rfl (by decide) (fun a => ⟨rfl, rfl⟩) (by decide) ?_
  refine r_vret dX7_init_119 rfl ⟨rfl, rfl, fun k hk => ?_⟩
  by_cases h1 : k < 83
  · refine (va_up_n (by omega)).trans ?_
    refine (kh_lt (by omega)).trans ?_
    refine (va_up_n (by omega)).trans ?_
    refine (mn_lt (by omega)).trans ?_
    refine (va_up_n (by omega)).trans ?_
    refine (mn_lt (by omega)).trans ?_
    refine (va_up_n (by omega)).trans ?_
    refine (va_up_n (by omega)).trans ?_
    refine (va_up_n (by omega)).trans ?_
    refine (mn_lt (by omega)).trans ?_
    refine (va_up_n (by omega)).trans ?_
    refine (va_up_n (by omega)).trans ?_
    refine (va_up_n (by omega)).trans ?_
    refine (va_up_n (by omega)).trans ?_
    refine (va_up_n (by omega)).trans ?_
    refine (va_up_n (by omega)).trans ?_
    refine (va_up_n (by omega)).trans ?_
    refine (va_up_n (by omega)).trans ?_
    refine (va_up_n (by omega)).trans ?_
    refine (va_up_n (by omega)).trans ?_
    refine (va_up_n (by omega)).trans ?_
    refine (mn_lt (by omega)).trans ?_
    refine (va_up_n (by omega)).trans ?_
    refine (va_up_n (by omega)).trans ?_
    refine (va_up_n (by omega)).trans ?_
    refine (mn_lt (by omega)).trans ?_
    refine (va_up_n (by omega)).trans ?_
    exact (kh_lt h1).symm
  rcases (show k = 83 ∨ k = 84 ∨ k = 85 ∨ k = 86 ∨ k = 87 ∨ k = 88 ∨ k = 89 ∨ k = 90 ∨ k = 91 ∨ k = 92 ∨ k = 93 ∨ k = 94 ∨ k = 95 ∨ k = 96 ∨ k = 97 ∨ k = 98 ∨ k = 99 ∨ k = 100 ∨ k = 101 ∨ k = 102 ∨ k = 103 ∨ k = 104 ∨ k = 105 ∨ k = 106 ∨ k = 107 ∨ k = 108 ∨ k = 109 ∨ k = 110 ∨ k = 111 ∨ k = 112 ∨ k = 113 ∨ k = 114 ∨ k = 115 ∨ k = 116 ∨ k = 117 ∨ k = 118 ∨ k = 119 ∨ k = 120 ∨ k = 121 ∨ k = 122 ∨ k = 123 by omega) with rfl | rfl | rfl | rfl | rfl | rfl | rfl | rfl | rfl | rfl | rfl | rfl | rfl | rfl | rfl | rfl | rfl | rfl | rfl | rfl | rfl | rfl | rfl | rfl | rfl | rfl | rfl | rfl | rfl | rfl | rfl | rfl | rfl | rfl | rfl | rfl | rfl | rfl | rfl | rfl | rfl
  · rfl
  · rfl
  · rfl
  · rfl
  · rfl
  · rfl
  · rfl
  · rfl
  · rfl
  · rfl
  · rfl
  · rfl
  · rfl
  · rfl
  · rfl
  · rfl
  · rfl
  · rfl
  · rfl
  · rfl
  · rfl
  · rfl
  · rfl
  · rfl
  · rfl
  · rfl
  · rfl
  · rfl
  · rfl
  · rfl
  · rfl
  · rfl
  · rfl
  · rfl
  · rfl
  · rfl
  · rfl
  · rfl
  · rfl
  · rfl
  · rfl
set_option maxRecDepth 20000 in
set_option maxHeartbeats 2000000 in
theorem kX10_124 {G : q_G} {h : q_H} : q_W G mX10_init 1 7 93 (kP h 124 132) 0 (q_ent mX10_init [.ref 124]) [] 125 (va_up h 124 (.inr (10, [.null, .null, .null, .null, .null, .int 0, .int 0, .null, .null, .int 0, .int 0]))) := by
  show q_W G mX10_init 1 7 93 _ 0 [some (.ref 124)] [] 125 _
  refine r_aload_n dX10_init_0 rfl rfl ?_
  refine r_objInit dX10_init_1 kwO_X10 kwO_inst kwO_code (by decide) (Nat.le_of_ble_eq_true rfl) ?_
  refine r_aload_n dX10_init_4 rfl rfl ?_
  refine r_bipush (v := 20) dX10_init_5 (by decide) ?_
  refine r_newa (t := 0) (N := 20) (ty := .int) (b := (20, .inl (fun _ => 0))) dX10_init_7 rfl (fun _ => rfl) (fun CC q => by cases q) kwA_int (fun _ => rfl) (fun f q => by cases q) (by decide) (by decide) (by decide) (by decide) (by decide) (by decide) ?_
  refine r_putF dX10_init_9 gX10_9 rfl ⟨_, _, rfl⟩ (by decide) rfl (by decide) (fun a => ⟨rfl, rfl⟩) (by decide) ?_
  refine r_aload_n dX10_init_12 rfl rfl ?_
  refine r_bipush (v := 20) dX10_init_13 (by decide) ?_
  refine r_newa (t := 0) (N := 20) (ty := .int) (b := (20, .inl (fun _ => 0))) dX10_init_15 rfl (fun _ => rfl) (fun CC q => by cases q) kwA_int (fun _ => rfl) (fun f q => by cases q) (by decide) (by decide) (by decide) (by decide) (by decide) (by decide) ?_
  refine r_putF dX10_init_17 gX10_15 rfl ⟨_, _, rfl⟩ (by decide) rfl (by decide) (fun a => ⟨rfl, rfl⟩) (by decide) ?_
  refine r_aload_n dX10_init_20 rfl rfl ?_
  refine r_bipush (v := 20) dX10_init_21 (by decide) ?_
  refine r_newa (t := 0) (N := 20) (ty := .int) (b := (20, .inl (fun _ => 0))) dX10_init_23 rfl (fun _ => rfl) (fun CC q => by cases q) kwA_int (fun _ => rfl) (fun f q => by cases q) (by decide) (by decide) (by decide) (by decide) (by decide) (by decide) ?_
  refine r_putF dX10_init_25 gX10_18 rfl ⟨_, _, rfl⟩ (by decide) rfl (by decide) (fun a => ⟨rfl, rfl⟩) (by decide) ?_
  refine r_aload_n dX10_init_28 rfl rfl ?_
  refine r_bipush (v := 20) dX10_init_29 (by decide) ?_
  refine r_newa (t := 0) (N := 20) (ty := .int) (b := (20, .inl (fun _ => 0))) dX10_init_31 rfl (fun _ => rfl) (fun CC q => by cases q) kwA_int (fun _ => rfl) (fun f q => by cases q) (by decide) (by decide) (by decide) (by decide) (by decide) (by decide) ?_
  refine r_putF dX10_init_33 gX10_21 rfl ⟨_, _, rfl⟩ (by decide) rfl (by decide) (fun a => ⟨rfl, rfl⟩) (by decide) ?_
  refine r_aload_n dX10_init_36 rfl rfl ?_
  refine r_iconst (v := 4) dX10_init_37 (by decide) ?_
  refine r_newa (t := 1) (N := 4) (ty := .boolean) (b := (4, .inl (fun _ => 0))) dX10_init_38 rfl (fun _ => rfl) (fun CC q => by cases q) kwA_boolean (fun _ => rfl) (fun f q => by cases q) (by decide) (by decide) (by decide) (by decide) (by decide) (by decide) ?_
  refine r_putF dX10_init_40 gX10_24 rfl ⟨_, _, rfl⟩ (by decide) rfl (by decide) (fun a => ⟨rfl, rfl⟩) (by decide) ?_
  refine r_aload_n dX10_init_43 rfl rfl ?_
  refine r_iconst (v := 5) dX10_init_44 (by decide) ?_
  refine r_newa (t := 0) (N := 5) (ty := .int) (b := (5, .inl (fun _ => 0))) dX10_init_45 rfl (fun _ => rfl) (fun CC q => by cases q) kwA_int (fun _ => rfl) (fun f q => by cases q) (by decide) (by decide) (by decide) (by decide) (by decide) (by decide) ?_
  refine r_putF dX10_init_47 gX10_28 rfl ⟨_, _, rfl⟩ (by decide) rfl (by decide) (fun a => ⟨rfl, rfl⟩) (by decide) ?_
  refine r_aload_n dX10_init_50 rfl rfl ?_
  refine r_iconst (v := 4) dX10_init_51 (by decide) ?_
  refine r_newa (t := 0) (N := 4) (ty := .int) (b := (4, .inl (fun _ => 0))) dX10_init_52 rfl (fun _ => rfl) (fun CC q => by cases q) kwA_int (fun _ => rfl) (fun f q => by cases q) (by decide) (by decide) (by decide) (by decide) (by decide) (by decide) ?_
  refine r_putF dX10_init_54 gX10_31 rfl ⟨_, _, rfl⟩ (by decide) rfl (by decide) (fun a => ⟨rfl, rfl⟩) (by decide) ?_
  refine r_aload_n dX10_init_57 rfl rfl ?_
  refine r_iconst (v := -1) dX10_init_58 (by decide) ?_
  refine r_putf dX10_init_59 gX10_34 (by decide) rfl (by decide) rfl rfl ?_
  refine r_vret dX10_init_62 rfl ⟨rfl, rfl, fun k hk => ?_⟩
  by_cases h1 : k < 124
  · refine (va_up_n (by omega)).trans ?_
    refine (va_up_n (by omega)).trans ?_
    refine (va_up_n (by omega)).trans ?_
    refine (va_up_n (by omega)).trans ?_
    refine (va_up_n (by omega)).trans ?_
    refine (va_up_n (by omega)).trans ?_
    refine (va_up_n (by omega)).trans ?_
    refine (va_up_n (by omega)).trans ?_
    refine (va_up_n (by omega)).trans ?_
    refine (va_up_n (by omega)).trans ?_
    refine (va_up_n (by omega)).trans ?_
    refine (va_up_n (by omega)).trans ?_
    refine (va_up_n (by omega)).trans ?_
    refine (va_up_n (by omega)).trans ?_
    refine (va_up_n (by omega)).trans ?_
    refine (va_up_n (by omega)).trans ?_
    exact (kh_lt h1).symm
  rcases (show k = 124 ∨ k = 125 ∨ k = 126 ∨ k = 127 ∨ k = 128 ∨ k = 129 ∨ k = 130 ∨ k = 131 by omega) with rfl | rfl | rfl | rfl | rfl | rfl | rfl | rfl
  · rfl
  · rfl
  · rfl
  · rfl
  · rfl
  · rfl
  · rfl
  · rfl
set_option maxRecDepth 20000 in
set_option maxHeartbeats 2000000 in
theorem kX10_132 {G : q_G} {h : q_H} : q_W G mX10_init 1 7 93 (kP h 132 140) 0 (q_ent mX10_init [.ref 132]) [] 133 (va_up h 132 (.inr (10, [.null, .null, .null, .null, .null, .int 0, .int 0, .null, .null, .int 0, .int 0]))) := by
  show q_W G mX10_init 1 7 93 _ 0 [some (.ref 132)] [] 133 _
  refine r_aload_n dX10_init_0 rfl rfl ?_
  refine r_objInit dX10_init_1 kwO_X10 kwO_inst kwO_code (by decide) (Nat.le_of_ble_eq_true rfl) ?_
  refine r_aload_n dX10_init_4 rfl rfl ?_
  refine r_bipush (v := 20) dX10_init_5 (by decide) ?_
  refine r_newa (t := 0) (N := 20) (ty := .int) (b := (20, .inl (fun _ => 0))) dX10_init_7 rfl (fun _ => rfl) (fun CC q => by cases q) kwA_int (fun _ => rfl) (fun f q => by cases q) (by decide) (by decide) (by decide) (by decide) (by decide) (by decide) ?_
  refine r_putF dX10_init_9 gX10_9 rfl ⟨_, _, rfl⟩ (by decide) rfl (by decide) (fun a => ⟨rfl, rfl⟩) (by decide) ?_
  refine r_aload_n dX10_init_12 rfl rfl ?_
  refine r_bipush (v := 20) dX10_init_13 (by decide) ?_
  refine r_newa (t := 0) (N := 20) (ty := .int) (b := (20, .inl (fun _ => 0))) dX10_init_15 rfl (fun _ => rfl) (fun CC q => by cases q) kwA_int (fun _ => rfl) (fun f q => by cases q) (by decide) (by decide) (by decide) (by decide) (by decide) (by decide) ?_
  refine r_putF dX10_init_17 gX10_15 rfl ⟨_, _, rfl⟩ (by decide) rfl (by decide) (fun a => ⟨rfl, rfl⟩) (by decide) ?_
  refine r_aload_n dX10_init_20 rfl rfl ?_
  refine r_bipush (v := 20) dX10_init_21 (by decide) ?_
  refine r_newa (t := 0) (N := 20) (ty := .int) (b := (20, .inl (fun _ => 0))) dX10_init_23 rfl (fun _ => rfl) (fun CC q => by cases q) kwA_int (fun _ => rfl) (fun f q => by cases q) (by decide) (by decide) (by decide) (by decide) (by decide) (by decide) ?_
  refine r_putF dX10_init_25 gX10_18 rfl ⟨_, _, rfl⟩ (by decide) rfl (by decide) (fun a => ⟨rfl, rfl⟩) (by decide) ?_
  refine r_aload_n dX10_init_28 rfl rfl ?_
  refine r_bipush (v := 20) dX10_init_29 (by decide) ?_
  refine r_newa (t := 0) (N := 20) (ty := .int) (b := (20, .inl (fun _ => 0))) dX10_init_31 rfl (fun _ => rfl) (fun CC q => by cases q) kwA_int (fun _ => rfl) (fun f q => by cases q) (by decide) (by decide) (by decide) (by decide) (by decide) (by decide) ?_
  refine r_putF dX10_init_33 gX10_21 rfl ⟨_, _, rfl⟩ (by decide) rfl (by decide) (fun a => ⟨rfl, rfl⟩) (by decide) ?_
  refine r_aload_n dX10_init_36 rfl rfl ?_
  refine r_iconst (v := 4) dX10_init_37 (by decide) ?_
  refine r_newa (t := 1) (N := 4) (ty := .boolean) (b := (4, .inl (fun _ => 0))) dX10_init_38 rfl (fun _ => rfl) (fun CC q => by cases q) kwA_boolean (fun _ => rfl) (fun f q => by cases q) (by decide) (by decide) (by decide) (by decide) (by decide) (by decide) ?_
  refine r_putF dX10_init_40 gX10_24 rfl ⟨_, _, rfl⟩ (by decide) rfl (by decide) (fun a => ⟨rfl, rfl⟩) (by decide) ?_
  refine r_aload_n dX10_init_43 rfl rfl ?_
  refine r_iconst (v := 5) dX10_init_44 (by decide) ?_
  refine r_newa (t := 0) (N := 5) (ty := .int) (b := (5, .inl (fun _ => 0))) dX10_init_45 rfl (fun _ => rfl) (fun CC q => by cases q) kwA_int (fun _ => rfl) (fun f q => by cases q) (by decide) (by decide) (by decide) (by decide) (by decide) (by decide) ?_
  refine r_putF dX10_init_47 gX10_28 rfl ⟨_, _, rfl⟩ (by decide) rfl (by decide) (fun a => ⟨rfl, rfl⟩) (by decide) ?_
  refine r_aload_n dX10_init_50 rfl rfl ?_
  refine r_iconst (v := 4) dX10_init_51 (by decide) ?_
  refine r_newa (t := 0) (N := 4) (ty := .int) (b := (4, .inl (fun _ => 0))) dX10_init_52 rfl (fun _ => rfl) (fun CC q => by cases q) kwA_int (fun _ => rfl) (fun f q => by cases q) (by decide) (by decide) (by decide) (by decide) (by decide) (by decide) ?_
  refine r_putF dX10_init_54 gX10_31 rfl ⟨_, _, rfl⟩ (by decide) rfl (by decide) (fun a => ⟨rfl, rfl⟩) (by decide) ?_
  refine r_aload_n dX10_init_57 rfl rfl ?_
  refine r_iconst (v := -1) dX10_init_58 (by decide) ?_
  refine r_putf dX10_init_59 gX10_34 (by decide) rfl (by decide) rfl rfl ?_
  refine r_vret dX10_init_62 rfl ⟨rfl, rfl, fun k hk => ?_⟩
  by_cases h1 : k < 132
  · refine (va_up_n (by omega)).trans ?_
    refine (va_up_n (by omega)).trans ?_
    refine (va_up_n (by omega)).trans ?_
    refine (va_up_n (by omega)).trans ?_
    refine (va_up_n (by omega)).trans ?_
    refine (va_up_n (by omega)).trans ?_
    refine (va_up_n (by omega)).trans ?_
    refine (va_up_n (by omega)).trans ?_
    refine (va_up_n (by omega)).trans ?_
    refine (va_up_n (by omega)).trans ?_
    refine (va_up_n (by omega)).trans ?_
    refine (va_up_n (by omega)).trans ?_
    refine (va_up_n (by omega)).trans ?_
    refine (va_up_n (by omega)).trans ?_
    refine (va_up_n (by omega)).trans ?_
    refine (va_up_n (by omega)).trans ?_
    exact (kh_lt h1).symm
  rcases (show k = 132 ∨ k = 133 ∨ k = 134 ∨ k = 135 ∨ k = 136 ∨ k = 137 ∨ k = 138 ∨ k = 139 by omega) with rfl | rfl | rfl | rfl | rfl | rfl | rfl | rfl
  · rfl
  · rfl
  · rfl
  · rfl
  · rfl
  · rfl
  · rfl
  · rfl
set_option maxRecDepth 20000 in
set_option maxHeartbeats 2000000 in
theorem kX10_152 {G : q_G} {h : q_H} : q_W G mX10_init 1 7 93 (kP h 152 160) 0 (q_ent mX10_init [.ref 152]) [] 153 (va_up h 152 (.inr (10, [.null, .null, .null, .null, .null, .int 0, .int 0, .null, .null, .int 0, .int 0]))) := by
  show q_W G mX10_init 1 7 93 _ 0 [some (.ref 152)] [] 153 _
  refine r_aload_n dX10_init_0 rfl rfl ?_
  refine r_objInit dX10_init_1 kwO_X10 kwO_inst kwO_code (by decide) (Nat.le_of_ble_eq_true rfl) ?_
  refine r_aload_n dX10_init_4 rfl rfl ?_
  refine r_bipush (v := 20) dX10_init_5 (by decide) ?_
  refine r_newa (t := 0) (N := 20) (ty := .int) (b := (20, .inl (fun _ => 0))) dX10_init_7 rfl (fun _ => rfl) (fun CC q => by cases q) kwA_int (fun _ => rfl) (fun f q => by cases q) (by decide) (by decide) (by decide) (by decide) (by decide) (by decide) ?_
  refine r_putF dX10_init_9 gX10_9 rfl ⟨_, _, rfl⟩ (by decide) rfl (by decide) (fun a => ⟨rfl, rfl⟩) (by decide) ?_
  refine r_aload_n dX10_init_12 rfl rfl ?_
  refine r_bipush (v := 20) dX10_init_13 (by decide) ?_
  refine r_newa (t := 0) (N := 20) (ty := .int) (b := (20, .inl (fun _ => 0))) dX10_init_15 rfl (fun _ => rfl) (fun CC q => by cases q) kwA_int (fun _ => rfl) (fun f q => by cases q) (by decide) (by decide) (by decide) (by decide) (by decide) (by decide) ?_
  refine r_putF dX10_init_17 gX10_15 rfl ⟨_, _, rfl⟩ (by decide) rfl (by decide) (fun a => ⟨rfl, rfl⟩) (by decide) ?_
  refine r_aload_n dX10_init_20 rfl rfl ?_
  refine r_bipush (v := 20) dX10_init_21 (by decide) ?_
  refine r_newa (t := 0) (N := 20) (ty := .int) (b := (20, .inl (fun _ => 0))) dX10_init_23 rfl (fun _ => rfl) (fun CC q => by cases q) kwA_int (fun _ => rfl) (fun f q => by cases q) (by decide) (by decide) (by decide) (by decide) (by decide) (by decide) ?_
  refine r_putF dX10_init_25 gX10_18 rfl ⟨_, _, rfl⟩ (by decide) rfl (by decide) (fun a => ⟨rfl, rfl⟩) (by decide) ?_
  refine r_aload_n dX10_init_28 rfl rfl ?_
  refine r_bipush (v := 20) dX10_init_29 (by decide) ?_
  refine r_newa (t := 0) (N := 20) (ty := .int) (b := (20, .inl (fun _ => 0))) dX10_init_31 rfl (fun _ => rfl) (fun CC q => by cases q) kwA_int (fun _ => rfl) (fun f q => by cases q) (by decide) (by decide) (by decide) (by decide) (by decide) (by decide) ?_
  refine r_putF dX10_init_33 gX10_21 rfl ⟨_, _, rfl⟩ (by decide) rfl (by decide) (fun a => ⟨rfl, rfl⟩) (by decide) ?_
  refine r_aload_n dX10_init_36 rfl rfl ?_
  refine r_iconst (v := 4) dX10_init_37 (by decide) ?_
  refine r_newa (t := 1) (N := 4) (ty := .boolean) (b := (4, .inl (fun _ => 0))) dX10_init_38 rfl (fun _ => rfl) (fun CC q => by cases q) kwA_boolean (fun _ => rfl) (fun f q => by cases q) (by decide) (by decide) (by decide) (by decide) (by decide) (by decide) ?_
  refine r_putF dX10_init_40 gX10_24 rfl ⟨_, _, rfl⟩ (by decide) rfl (by decide) (fun a => ⟨rfl, rfl⟩) (by decide) ?_
  refine r_aload_n dX10_init_43 rfl rfl ?_
  refine r_iconst (v := 5) dX10_init_44 (by decide) ?_
  refine r_newa (t := 0) (N := 5) (ty := .int) (b := (5, .inl (fun _ => 0))) dX10_init_45 rfl (fun _ => rfl) (fun CC q => by cases q) kwA_int (fun _ => rfl) (fun f q => by cases q) (by decide) (by decide) (by decide) (by decide) (by decide) (by decide) ?_
  refine r_putF dX10_init_47 gX10_28 rfl ⟨_, _, rfl⟩ (by decide) rfl (by decide) (fun a => ⟨rfl, rfl⟩) (by decide) ?_
  refine r_aload_n dX10_init_50 rfl rfl ?_
  refine r_iconst (v := 4) dX10_init_51 (by decide) ?_
  refine r_newa (t := 0) (N := 4) (ty := .int) (b := (4, .inl (fun _ => 0))) dX10_init_52 rfl (fun _ => rfl) (fun CC q => by cases q) kwA_int (fun _ => rfl) (fun f q => by cases q) (by decide) (by decide) (by decide) (by decide) (by decide) (by decide) ?_
  refine r_putF dX10_init_54 gX10_31 rfl ⟨_, _, rfl⟩ (by decide) rfl (by decide) (fun a => ⟨rfl, rfl⟩) (by decide) ?_
  refine r_aload_n dX10_init_57 rfl rfl ?_
  refine r_iconst (v := -1) dX10_init_58 (by decide) ?_
  refine r_putf dX10_init_59 gX10_34 (by decide) rfl (by decide) rfl rfl ?_
  refine r_vret dX10_init_62 rfl ⟨rfl, rfl, fun k hk => ?_⟩
  by_cases h1 : k < 152
  · refine (va_up_n (by omega)).trans ?_
    refine (va_up_n (by omega)).trans ?_
    refine (va_up_n (by omega)).trans ?_
    refine (va_up_n (by omega)).trans ?_
    refine (va_up_n (by omega)).trans ?_
    refine (va_up_n (by omega)).trans ?_
    refine (va_up_n (by omega)).trans ?_
    refine (va_up_n (by omega)).trans ?_
    refine (va_up_n (by omega)).trans ?_
    refine (va_up_n (by omega)).trans ?_
    refine (va_up_n (by omega)).trans ?_
    refine (va_up_n (by omega)).trans ?_
    refine (va_up_n (by omega)).trans ?_
    refine (va_up_n (by omega)).trans ?_
    refine (va_up_n (by omega)).trans ?_
    refine (va_up_n (by omega)).trans ?_
    exact (kh_lt h1).symm
  rcases (show k = 152 ∨ k = 153 ∨ k = 154 ∨ k = 155 ∨ k = 156 ∨ k = 157 ∨ k = 158 ∨ k = 159 by omega) with rfl | rfl | rfl | rfl | rfl | rfl | rfl | rfl
  · rfl
  · rfl
  · rfl
  · rfl
  · rfl
  · rfl
  · rfl
  · rfl
set_option maxRecDepth 20000 in
set_option maxHeartbeats 2000000 in
theorem kX10_162 {G : q_G} {h : q_H} : q_W G mX10_init 1 7 93 (kP h 162 170) 0 (q_ent mX10_init [.ref 162]) [] 163 (va_up h 162 (.inr (10, [.null, .null, .null, .null, .null, .int 0, .int 0, .null, .null, .int 0, .int 0]))) := by
  show q_W G mX10_init 1 7 93 _ 0 [some (.ref 162)] [] 163 _
  refine r_aload_n dX10_init_0 rfl rfl ?_
  refine r_objInit dX10_init_1 kwO_X10 kwO_inst kwO_code (by decide) (Nat.le_of_ble_eq_true rfl) ?_
  refine r_aload_n dX10_init_4 rfl rfl ?_
  refine r_bipush (v := 20) dX10_init_5 (by decide) ?_
  refine r_newa (t := 0) (N := 20) (ty := .int) (b := (20, .inl (fun _ => 0))) dX10_init_7 rfl (fun _ => rfl) (fun CC q => by cases q) kwA_int (fun _ => rfl) (fun f q => by cases q) (by decide) (by decide) (by decide) (by decide) (by decide) (by decide) ?_
  refine r_putF dX10_init_9 gX10_9 rfl ⟨_, _, rfl⟩ (by decide) rfl (by decide) (fun a => ⟨rfl, rfl⟩) (by decide) ?_
  refine r_aload_n dX10_init_12 rfl rfl ?_
  refine r_bipush (v := 20) dX10_init_13 (by decide) ?_
  refine r_newa (t := 0) (N := 20) (ty := .int) (b := (20, .inl (fun _ => 0))) dX10_init_15 rfl (fun _ => rfl) (fun CC q => by cases q) kwA_int (fun _ => rfl) (fun f q => by cases q) (by decide) (by decide) (by decide) (by decide) (by decide) (by decide) ?_
  refine r_putF dX10_init_17 gX10_15 rfl ⟨_, _, rfl⟩ (by decide) rfl (by decide) (fun a => ⟨rfl, rfl⟩) (by decide) ?_
  refine r_aload_n dX10_init_20 rfl rfl ?_
  refine r_bipush (v := 20) dX10_init_21 (by decide) ?_
  refine r_newa (t := 0) (N := 20) (ty := .int) (b := (20, .inl (fun _ => 0))) dX10_init_23 rfl (fun _ => rfl) (fun CC q => by cases q) kwA_int (fun _ => rfl) (fun f q => by cases q) (by decide) (by decide) (by decide) (by decide) (by decide) (by decide) ?_
  refine r_putF dX10_init_25 gX10_18 rfl ⟨_, _, rfl⟩ (by decide) rfl (by decide) (fun a => ⟨rfl, rfl⟩) (by decide) ?_
  refine r_aload_n dX10_init_28 rfl rfl ?_
  refine r_bipush (v := 20) dX10_init_29 (by decide) ?_
  refine r_newa (t := 0) (N := 20) (ty := .int) (b := (20, .inl (fun _ => 0))) dX10_init_31 rfl (fun _ => rfl) (fun CC q => by cases q) kwA_int (fun _ => rfl) (fun f q => by cases q) (by decide) (by decide) (by decide) (by decide) (by decide) (by decide) ?_
  refine r_putF dX10_init_33 gX10_21 rfl ⟨_, _, rfl⟩ (by decide) rfl (by decide) (fun a => ⟨rfl, rfl⟩) (by decide) ?_
  refine r_aload_n dX10_init_36 rfl rfl ?_
  refine r_iconst (v := 4) dX10_init_37 (by decide) ?_
  refine r_newa (t := 1) (N := 4) (ty := .boolean) (b := (4, .inl (fun _ => 0))) dX10_init_38 rfl (fun _ => rfl) (fun CC q => by cases q) kwA_boolean (fun _ => rfl) (fun f q => by cases q) (by decide) (by decide) (by decide) (by decide) (by decide) (by decide) ?_
  refine r_putF dX10_init_40 gX10_24 rfl ⟨_, _, rfl⟩ (by decide) rfl (by decide) (fun a => ⟨rfl, rfl⟩) (by decide) ?_
  refine r_aload_n dX10_init_43 rfl rfl ?_
  refine r_iconst (v := 5) dX10_init_44 (by decide) ?_
  refine r_newa (t := 0) (N := 5) (ty := .int) (b := (5, .inl (fun _ => 0))) dX10_init_45 rfl (fun _ => rfl) (fun CC q => by cases q) kwA_int (fun _ => rfl) (fun f q => by cases q) (by decide) (by decide) (by decide) (by decide) (by decide) (by decide) ?_
  refine r_putF dX10_init_47 gX10_28 rfl ⟨_, _, rfl⟩ (by decide) rfl (by decide) (fun a => ⟨rfl, rfl⟩) (by decide) ?_
  refine r_aload_n dX10_init_50 rfl rfl ?_
  refine r_iconst (v := 4) dX10_init_51 (by decide) ?_
  refine r_newa (t := 0) (N := 4) (ty := .int) (b := (4, .inl (fun _ => 0))) dX10_init_52 rfl (fun _ => rfl) (fun CC q => by cases q) kwA_int (fun _ => rfl) (fun f q => by cases q) (by decide) (by decide) (by decide) (by decide) (by decide) (by decide) ?_
  refine r_putF dX10_init_54 gX10_31 rfl ⟨_, _, rfl⟩ (by decide) rfl (by decide) (fun a => ⟨rfl, rfl⟩) (by decide) ?_
  refine r_aload_n dX10_init_57 rfl rfl ?_
  refine r_iconst (v := -1) dX10_init_58 (by decide) ?_
  refine r_putf dX10_init_59 gX10_34 (by decide) rfl (by decide) rfl rfl ?_
  refine r_vret dX10_init_62 rfl ⟨rfl, rfl, fun k hk => ?_⟩
  by_cases h1 : k < 162
  · refine (va_up_n (by omega)).trans ?_
    refine (va_up_n (by omega)).trans ?_
    refine (va_up_n (by omega)).trans ?_
    refine (va_up_n (by omega)).trans ?_
    refine (va_up_n (by omega)).trans ?_
    refine (va_up_n (by omega)).trans ?_
    refine (va_up_n (by omega)).trans ?_
    refine (va_up_n (by omega)).trans ?_
    refine (va_up_n (by omega)).trans ?_
    refine (va_up_n (by omega)).trans ?_
    refine (va_up_n (by omega)).trans ?_
    refine (va_up_n (by omega)).trans ?_
    refine (va_up_n (by omega)).trans ?_
    refine (va_up_n (by omega)).trans ?_
    refine (va_up_n (by omega)).trans ?_
    refine (va_up_n (by omega)).trans ?_
    exact (kh_lt h1).symm
  rcases (show k = 162 ∨ k = 163 ∨ k = 164 ∨ k = 165 ∨ k = 166 ∨ k = 167 ∨ k = 168 ∨ k = 169 by omega) with rfl | rfl | rfl | rfl | rfl | rfl | rfl | rfl
  · rfl
  · rfl
  · rfl
  · rfl
  · rfl
  · rfl
  · rfl
  · rfl
set_option maxRecDepth 20000 in
set_option maxHeartbeats 2000000 in
theorem kX2_140 {G : q_G} {h : q_H} : q_W G mX2_init 1 3 60 (kP h 140 144) 0 (q_ent mX2_init [.ref 140]) [] 141 (va_up h 140 (.inr (2, [.int 0, .null, .int 0, .null, .null]))) := by
  show q_W G mX2_init 1 3 60 _ 0 [some (.ref 140)] [] 141 _
  refine r_aload_n dX2_init_0 rfl rfl ?_
  refine r_objInit dX2_init_1 kwO_X2 kwO_inst kwO_code (by decide) (Nat.le_of_ble_eq_true rfl) ?_
  refine r_aload_n dX2_init_4 rfl rfl ?_
  refine r_bipush (v := 20) dX2_init_5 (by decide) ?_
  refine r_newa (t := 0) (N := 20) (ty := .int) (b := (20, .inl (fun _ => 0))) dX2_init_7 rfl (fun _ => rfl) (fun CC q => by cases q) kwA_int (fun _ => rfl) (fun f q => by cases q) (by decide) (by decide) (by decide) (by decide) (by decide) (by decide) ?_
  refine r_putF dX2_init_9 gX2_9 rfl ⟨_, _, rfl⟩ (by decide) rfl (by decide) (fun a => ⟨rfl, rfl⟩) (by decide) ?_
  refine r_aload_n dX2_init_12 rfl rfl ?_
  refine r_bipush (v := 20) dX2_init_13 (by decide) ?_
  refine r_newa (t := 0) (N := 20) (ty := .int) (b := (20, .inl (fun _ => 0))) dX2_init_15 rfl (fun _ => rfl) (fun CC q => by cases q) kwA_int (fun _ => rfl) (fun f q => by cases q) (by decide) (by decide) (by decide) (by decide) (by decide) (by decide) ?_
  refine r_putF dX2_init_17 gX2_15 rfl ⟨_, _, rfl⟩ (by decide) rfl (by decide) (fun a => ⟨rfl, rfl⟩) (by decide) ?_
  refine r_aload_n dX2_init_20 rfl rfl ?_
  refine r_bipush (v := 20) dX2_init_21 (by decide) ?_
  refine r_newa (t := 0) (N := 20) (ty := .int) (b := (20, .inl (fun _ => 0))) dX2_init_23 rfl (fun _ => rfl) (fun CC q => by cases q) kwA_int (fun _ => rfl) (fun f q => by cases q) (by decide) (by decide) (by decide) (by decide) (by decide) (by decide) ?_
  refine r_putF dX2_init_25 gX2_18 rfl ⟨_, _, rfl⟩ (by decide) rfl (by decide) (fun a => ⟨rfl, rfl⟩) (by decide) ?_
  refine r_vret dX2_init_28 rfl ⟨rfl, rfl, fun k hk => ?_⟩
  by_cases h1 : k < 140
  · refine (va_up_n (by omega)).trans ?_
    refine (va_up_n (by omega)).trans ?_
    refine (va_up_n (by omega)).trans ?_
    refine (va_up_n (by omega)).trans ?_
    refine (va_up_n (by omega)).trans ?_
    refine (va_up_n (by omega)).trans ?_
    refine (va_up_n (by omega)).trans ?_
    exact (kh_lt h1).symm
  rcases (show k = 140 ∨ k = 141 ∨ k = 142 ∨ k = 143 by omega) with rfl | rfl | rfl | rfl
  · rfl
  · rfl
  · rfl
  · rfl
set_option maxRecDepth 20000 in
set_option maxHeartbeats 2000000 in
theorem kX2_170 {G : q_G} {h : q_H} : q_W G mX2_init 1 3 60 (kP h 170 174) 0 (q_ent mX2_init [.ref 170]) [] 171 (va_up h 170 (.inr (2, [.int 0, .null, .int 0, .null, .null]))) := by
  show q_W G mX2_init 1 3 60 _ 0 [some (.ref 170)] [] 171 _
  refine r_aload_n dX2_init_0 rfl rfl ?_
  refine r_objInit dX2_init_1 kwO_X2 kwO_inst kwO_code (by decide) (Nat.le_of_ble_eq_true rfl) ?_
  refine r_aload_n dX2_init_4 rfl rfl ?_
  refine r_bipush (v := 20) dX2_init_5 (by decide) ?_
  refine r_newa (t := 0) (N := 20) (ty := .int) (b := (20, .inl (fun _ => 0))) dX2_init_7 rfl (fun _ => rfl) (fun CC q => by cases q) kwA_int (fun _ => rfl) (fun f q => by cases q) (by decide) (by decide) (by decide) (by decide) (by decide) (by decide) ?_
  refine r_putF dX2_init_9 gX2_9 rfl ⟨_, _, rfl⟩ (by decide) rfl (by decide) (fun a => ⟨rfl, rfl⟩) (by decide) ?_
  refine r_aload_n dX2_init_12 rfl rfl ?_
  refine r_bipush (v := 20) dX2_init_13 (by decide) ?_
  refine r_newa (t := 0) (N := 20) (ty := .int) (b := (20, .inl (fun _ => 0))) dX2_init_15 rfl (fun _ => rfl) (fun CC q => by cases q) kwA_int (fun _ => rfl) (fun f q => by cases q) (by decide) (by decide) (by decide) (by decide) (by decide) (by decide) ?_
  refine r_putF dX2_init_17 gX2_15 rfl ⟨_, _, rfl⟩ (by decide) rfl (by decide) (fun a => ⟨rfl, rfl⟩) (by decide) ?_
  refine r_aload_n dX2_init_20 rfl rfl ?_
  refine r_bipush (v := 20) dX2_init_21 (by decide) ?_
  refine r_newa (t := 0) (N := 20) (ty := .int) (b := (20, .inl (fun _ => 0))) dX2_init_23 rfl (fun _ => rfl) (fun CC q => by cases q) kwA_int (fun _ => rfl) (fun f q => by cases q) (by decide) (by decide) (by decide) (by decide) (by decide) (by decide) ?_
  refine r_putF dX2_init_25 gX2_18 rfl ⟨_, _, rfl⟩ (by decide) rfl (by decide) (fun a => ⟨rfl, rfl⟩) (by decide) ?_
  refine r_vret dX2_init_28 rfl ⟨rfl, rfl, fun k hk => ?_⟩
  by_cases h1 : k < 170
  · refine (va_up_n (by omega)).trans ?_
    refine (va_up_n (by omega)).trans ?_
    refine (va_up_n (by omega)).trans ?_
    refine (va_up_n (by omega)).trans ?_
    refine (va_up_n (by omega)).trans ?_
    refine (va_up_n (by omega)).trans ?_
    refine (va_up_n (by omega)).trans ?_
    exact (kh_lt h1).symm
  rcases (show k = 170 ∨ k = 171 ∨ k = 172 ∨ k = 173 by omega) with rfl | rfl | rfl | rfl
  · rfl
  · rfl
  · rfl
  · rfl
set_option maxRecDepth 20000 in
set_option maxHeartbeats 2000000 in
theorem kX3_144 {G : q_G} {h : q_H} : q_W G mX3_init 1 2 25 (kP h 144 147) 0 (q_ent mX3_init [.ref 144]) [] 145 (va_up h 144 (.inr (3, [.null, .null, .int 0, .int 0]))) := by
  show q_W G mX3_init 1 2 25 _ 0 [some (.ref 144)] [] 145 _
  refine r_aload_n dX3_init_0 rfl rfl ?_
  refine r_objInit dX3_init_1 kwO_X3 kwO_inst kwO_code (by decide) (Nat.le_of_ble_eq_true rfl) ?_
  refine r_aload_n dX3_init_4 rfl rfl ?_
  refine r_bipush (v := 20) dX3_init_5 (by decide) ?_
  refine r_newa (t := 0) (N := 20) (ty := .int) (b := (20, .inl (fun _ => 0))) dX3_init_7 rfl (fun _ => rfl) (fun CC q => by cases q) kwA_int (fun _ => rfl) (fun f q => by cases q) (by decide) (by decide) (by decide) (by decide) (by decide) (by decide) ?_
  refine r_putF dX3_init_9 gX3_9 rfl ⟨_, _, rfl⟩ (by decide) rfl (by decide) (fun a => ⟨rfl, rfl⟩) (by decide) ?_
  refine r_aload_n dX3_init_12 rfl rfl ?_
  refine r_iconst (v := 5) dX3_init_13 (by decide) ?_
  refine r_newa (t := 0) (N := 5) (ty := .int) (b := (5, .inl (fun _ => 0))) dX3_init_14 rfl (fun _ => rfl) (fun CC q => by cases q) kwA_int (fun _ => rfl) (fun f q => by cases q) (by decide) (by decide) (by decide) (by decide) (by decide) (by decide) ?_
  refine r_putF dX3_init_16 gX3_15 rfl ⟨_, _, rfl⟩ (by decide) rfl (by decide) (fun a => ⟨rfl, rfl⟩) (by decide) ?_
  refine r_vret dX3_init_19 rfl ⟨rfl, rfl, fun k hk => ?_⟩
  by_cases h1 : k < 144
  · refine (va_up_n (by omega)).trans ?_
    refine (va_up_n (by omega)).trans ?_
    refine (va_up_n (by omega)).trans ?_
    refine (va_up_n (by omega)).trans ?_
    refine (va_up_n (by omega)).trans ?_
    exact (kh_lt h1).symm
  rcases (show k = 144 ∨ k = 145 ∨ k = 146 by omega) with rfl | rfl | rfl
  · rfl
  · rfl
  · rfl
set_option maxRecDepth 20000 in
set_option maxHeartbeats 2000000 in
theorem kX6_147 {G : q_G} {h : q_H} : q_W G mX6_init 1 2 10 (kP h 147 150) 0 (q_ent mX6_init [.ref 147]) [] 148 (va_up h 147 (.inr (6, [.int 0, .null, .null]))) := by
  show q_W G mX6_init 1 2 10 _ 0 [some (.ref 147)] [] 148 _
  refine r_aload_n dX6_init_0 rfl rfl ?_
  refine r_objInit dX6_init_1 kwO_X6 kwO_inst kwO_code (by decide) (Nat.le_of_ble_eq_true rfl) ?_
  refine r_aload_n dX6_init_4 rfl rfl ?_
  refine r_iconst (v := 5) dX6_init_5 (by decide) ?_
  refine r_newa (t := 0) (N := 5) (ty := .int) (b := (5, .inl (fun _ => 0))) dX6_init_6 rfl (fun _ => rfl) (fun CC q => by cases q) kwA_int (fun _ => rfl) (fun f q => by cases q) (by decide) (by decide) (by decide) (by decide) (by decide) (by decide) ?_
  refine r_putF dX6_init_8 gX6_9 rfl ⟨_, _, rfl⟩ (by decide) rfl (by decide) (fun a => ⟨rfl, rfl⟩) (by decide) ?_
  refine r_aload_n dX6_init_11 rfl rfl ?_
  refine r_iconst (v := 5) dX6_init_12 (by decide) ?_
  refine r_newa (t := 0) (N := 5) (ty := .int) (b := (5, .inl (fun _ => 0))) dX6_init_13 rfl (fun _ => rfl) (fun CC q => by cases q) kwA_int (fun _ => rfl) (fun f q => by cases q) (by decide) (by decide) (by decide) (by decide) (by decide) (by decide) ?_
  refine r_putF dX6_init_15 gX6_15 rfl ⟨_, _, rfl⟩ (by decide) rfl (by decide) (fun a => ⟨rfl, rfl⟩) (by decide) ?_
  refine r_vret dX6_init_18 rfl ⟨rfl, rfl, fun k hk => ?_⟩
  by_cases h1 : k < 147
  · refine (va_up_n (by omega)).trans ?_
    refine (va_up_n (by omega)).trans ?_
    refine (va_up_n (by omega)).trans ?_
    refine (va_up_n (by omega)).trans ?_
    refine (va_up_n (by omega)).trans ?_
    exact (kh_lt h1).symm
  rcases (show k = 147 ∨ k = 148 ∨ k = 149 by omega) with rfl | rfl | rfl
  · rfl
  · rfl
  · rfl
set_option maxRecDepth 20000 in
set_option maxHeartbeats 2000000 in
theorem kX0_150 {G : q_G} {h : q_H} : q_W G mX0_init 2 10 113 (kP h 150 161) 0 (q_ent mX0_init [.ref 150]) [] 151 (va_up h 150 (.inr (0, [.int 0, .null, .null, .null]))) := by
  show q_W G mX0_init 2 10 113 _ 0 [some (.ref 150)] [] 151 _
  refine r_aload_n dX0_init_0 rfl rfl ?_
  refine r_objInit dX0_init_1 kwO_X0 kwO_inst kwO_code (by decide) (Nat.le_of_ble_eq_true rfl) ?_
  refine r_aload_n dX0_init_4 rfl rfl ?_
  refine r_iconst (v := 4) dX0_init_5 (by decide) ?_
  refine r_newa (t := 0) (N := 4) (ty := .int) (b := (4, .inl (fun _ => 0))) dX0_init_6 rfl (fun _ => rfl) (fun CC q => by cases q) kwA_int (fun _ => rfl) (fun f q => by cases q) (by decide) (by decide) (by decide) (by decide) (by decide) (by decide) ?_
  refine r_putF dX0_init_8 gX0_9 rfl ⟨_, _, rfl⟩ (by decide) rfl (by decide) (fun a => ⟨rfl, rfl⟩) (by decide) ?_
  refine r_aload_n dX0_init_11 rfl rfl ?_
  refine k_newX10 dX0_init_12 kwL_X0_15 (by decide) (by decide) (by decide) ?_
  refine r_dup dX0_init_15 rfl ?_
  refine k_call mX10_init (m := 160) dX0_init_16 okX10_init (Or.inr lX0_17) npX10_init (by decide) (by decide) (by decide) (Nat.le_of_ble_eq_true rfl) (Nat.le_of_ble_eq_true rfl) kX10_152 ?_
  refine r_putF dX0_init_19 gX0_18 rfl ⟨_, _, rfl⟩ (by decide) rfl (by decide) (fun a => ⟨rfl, rfl⟩) (by decide) ?_
  refine r_aload_n dX0_init_22 rfl rfl ?_
  refine r_iconst (v := 5) dX0_init_23 (by decide) ?_
  refine r_newa (t := 0) (N := 5) (ty := .int) (b := (5, .inl (fun _ => 0))) dX0_init_24 rfl (fun _ => rfl) (fun CC q => by cases q) kwA_int (fun _ => rfl) (fun f q => by cases q) (by decide) (by decide) (by decide) (by decide) (by decide) (by decide) ?_
  refine r_putF dX0_init_26 gX0_22 rfl ⟨_, _, rfl⟩ (by decide) rfl (by decide) (fun a => ⟨rfl, rfl⟩) (by decide) ?_
  refine r_vret dX0_init_29 rfl ⟨rfl, rfl, fun k hk => ?_⟩
  by_cases h1 : k < 150
  · refine (va_up_n (by omega)).trans ?_
    refine (va_up_n (by omega)).trans ?_
    refine (va_up_n (by omega)).trans ?_
    refine (kh_lt (by omega)).trans ?_
    refine (va_up_n (by omega)).trans ?_
    refine (va_up_n (by omega)).trans ?_
    refine (va_up_n (by omega)).trans ?_
    exact (kh_lt h1).symm
  rcases (show k = 150 ∨ k = 151 ∨ k = 152 ∨ k = 153 ∨ k = 154 ∨ k = 155 ∨ k = 156 ∨ k = 157 ∨ k = 158 ∨ k = 159 ∨ k = 160 by omega) with rfl | rfl | rfl | rfl | rfl | rfl | rfl | rfl | rfl | rfl | rfl
  · rfl
  · rfl
  · rfl
  · rfl
  · rfl
  · rfl
  · rfl
  · rfl
  · rfl
  · rfl
  · rfl
set_option maxRecDepth 20000 in
set_option maxHeartbeats 2000000 in
theorem kX8_161 {G : q_G} {h : q_H} : q_W G mX8_init 2 40 619 (kP h 161 202) 0 (q_ent mX8_init [.ref 161]) [] 162 (va_up h 161 (.inr (8, [.int 0, .null, .null, .null, .int 0, .null, .int 0, .int 0, .int 0]))) := by
  show q_W G mX8_init 2 40 619 _ 0 [some (.ref 161)] [] 162 _
  refine r_aload_n dX8_init_0 rfl rfl ?_
  refine r_objInit dX8_init_1 kwO_X8 kwO_inst kwO_code (by decide) (Nat.le_of_ble_eq_true rfl) ?_
  refine r_aload_n dX8_init_4 rfl rfl ?_
  refine k_newX10 dX8_init_5 kwL_X8_9 (by decide) (by decide) (by decide) ?_
  refine r_dup dX8_init_8 rfl ?_
  refine k_call mX10_init (m := 170) dX8_init_9 okX10_init (Or.inr lX8_11) npX10_init (by decide) (by decide) (by decide) (Nat.le_of_ble_eq_true rfl) (Nat.le_of_ble_eq_true rfl) kX10_162 ?_
  refine r_putF dX8_init_12 gX8_12 rfl ⟨_, _, rfl⟩ (by decide) rfl (by decide) (fun a => ⟨rfl, rfl⟩) (by decide) ?_
  refine r_aload_n dX8_init_15 rfl rfl ?_
  refine k_newX2 dX8_init_16 kwL_X8_18 (by decide) (by decide) (by decide) ?_
  refine r_dup dX8_init_19 rfl ?_
  refine k_call mX2_init (m := 174) dX8_init_20 okX2_init (Or.inr lX8_20) npX2_init (by decide) (by decide) (by decide) (Nat.le_of_ble_eq_true rfl) (Nat.le_of_ble_eq_true rfl) kX2_170 ?_
  refine r_putF dX8_init_23 gX8_21 rfl ⟨_, _, rfl⟩ (by decide) rfl (by decide) (fun a => ⟨rfl, rfl⟩) (by decide) ?_
  refine r_aload_n dX8_init_26 rfl rfl ?_
  refine k_newX5 dX8_init_27 kwL_X8_25 (by decide) (by decide) (by decide) ?_
  refine r_dup dX8_init_30 rfl ?_
  refine k_call mX5_init (m := 181) dX8_init_31 okX5_init (Or.inr lX8_27) npX5_init (by decide) (by decide) (by decide) (Nat.le_of_ble_eq_true rfl) (Nat.le_of_ble_eq_true rfl) kX5_174 ?_
  refine r_putF dX8_init_34 gX8_28 rfl ⟨_, _, rfl⟩ (by decide) rfl (by decide) (fun a => ⟨rfl, rfl⟩) (by decide) ?_
  refine r_aload_n dX8_init_37 rfl rfl ?_
  refine r_bipush (v := 20) dX8_init_38 (by decide) ?_
  refine r_bipush (v := 20) dX8_init_40 (by decide) ?_
  refine r_mna (N := 20) (K' := 20) dX8_init_42 kwL_X8_32 kwA_int (by decide) (by decide) (by decide) (by decide) (by decide) (by decide) (by decide) (by decide) (by decide) (by decide) ?_
  refine r_putF dX8_init_46 gX8_34 rfl ⟨_, _, rfl⟩ (by decide) rfl (by decide) (fun a => ⟨rfl, rfl⟩) (by decide) ?_
  refine r_vret dX8_init_49 rfl ⟨rfl, rfl, fun k hk => ?_⟩
  by_cases h1 : k < 161
  · refine (va_up_n (by omega)).trans ?_
    refine (mn_lt (by omega)).trans ?_
    refine (va_up_n (by omega)).trans ?_
    refine (kh_lt (by omega)).trans ?_
    refine (va_up_n (by omega)).trans ?_
    refine (kh_lt (by omega)).trans ?_
    refine (va_up_n (by omega)).trans ?_
    refine (kh_lt (by omega)).trans ?_
    refine (va_up_n (by omega)).trans ?_
    exact (kh_lt h1).symm
  rcases (show k = 161 ∨ k = 162 ∨ k = 163 ∨ k = 164 ∨ k = 165 ∨ k = 166 ∨ k = 167 ∨ k = 168 ∨ k = 169 ∨ k = 170 ∨ k = 171 ∨ k = 172 ∨ k = 173 ∨ k = 174 ∨ k = 175 ∨ k = 176 ∨ k = 177 ∨ k = 178 ∨ k = 179 ∨ k = 180 ∨ k = 181 ∨ k = 182 ∨ k = 183 ∨ k = 184 ∨ k = 185 ∨ k = 186 ∨ k = 187 ∨ k = 188 ∨ k = 189 ∨ k = 190 ∨ k = 191 ∨ k = 192 ∨ k = 193 ∨ k = 194 ∨ k = 195 ∨ k = 196 ∨ k = 197 ∨ k = 198 ∨ k = 199 ∨ k = 200 ∨ k = 201 by omega) with rfl | rfl | rfl | rfl | rfl | rfl | rfl | rfl | rfl | rfl | rfl | rfl | rfl | rfl | rfl | rfl | rfl | rfl | rfl | rfl | rfl | rfl | rfl | rfl | rfl | rfl | rfl | rfl | rfl | rfl | rfl | rfl | rfl | rfl | rfl | rfl | rfl | rfl | rfl | rfl | rfl
  · rfl
  · rfl
  · rfl
  · rfl
  · rfl
  · rfl
  · rfl
  · rfl
  · rfl
  · rfl
  · rfl
  · rfl
  · rfl
  · rfl
  · rfl
  · rfl
  · rfl
  · rfl
  · rfl
  · rfl
  · rfl
  · rfl
  · rfl
  · rfl
  · rfl
  · rfl
  · rfl
  · rfl
  · rfl
  · rfl
  · rfl
  · rfl
  · rfl
  · rfl
  · rfl
  · rfl
  · rfl
  · rfl
  · rfl
  · rfl
  · rfl
set_option maxRecDepth 20000 in
set_option maxHeartbeats 2000000 in
theorem kX1_202 {G : q_G} {h : q_H} : q_W G mX1_init 1 3 15 (kP h 202 206) 0 (q_ent mX1_init [.ref 202]) [] 203 (va_up h 202 (.inr (1, [.int 0, .null, .null, .null]))) := by
  show q_W G mX1_init 1 3 15 _ 0 [some (.ref 202)] [] 203 _
  refine r_aload_n dX1_init_0 rfl rfl ?_
  refine r_objInit dX1_init_1 kwO_X1 kwO_inst kwO_code (by decide) (Nat.le_of_ble_eq_true rfl) ?_
  refine r_aload_n dX1_init_4 rfl rfl ?_
  refine r_iconst (v := 5) dX1_init_5 (by decide) ?_
  refine r_newa (t := 0) (N := 5) (ty := .int) (b := (5, .inl (fun _ => 0))) dX1_init_6 rfl (fun _ => rfl) (fun CC q => by cases q) kwA_int (fun _ => rfl) (fun f q => by cases q) (by decide) (by decide) (by decide) (by decide) (by decide) (by decide) ?_
  refine r_putF dX1_init_8 gX1_9 rfl ⟨_, _, rfl⟩ (by decide) rfl (by decide) (fun a => ⟨rfl, rfl⟩) (by decide) ?_
  refine r_aload_n dX1_init_11 rfl rfl ?_
  refine r_iconst (v := 5) dX1_init_12 (by decide) ?_
  refine r_newa (t := 0) (N := 5) (ty := .int) (b := (5, .inl (fun _ => 0))) dX1_init_13 rfl (fun _ => rfl) (fun CC q => by cases q) kwA_int (fun _ => rfl) (fun f q => by cases q) (by decide) (by decide) (by decide) (by decide) (by decide) (by decide) ?_
  refine r_putF dX1_init_15 gX1_15 rfl ⟨_, _, rfl⟩ (by decide) rfl (by decide) (fun a => ⟨rfl, rfl⟩) (by decide) ?_
  refine r_aload_n dX1_init_18 rfl rfl ?_
  refine r_iconst (v := 5) dX1_init_19 (by decide) ?_
  refine r_newa (t := 0) (N := 5) (ty := .int) (b := (5, .inl (fun _ => 0))) dX1_init_20 rfl (fun _ => rfl) (fun CC q => by cases q) kwA_int (fun _ => rfl) (fun f q => by cases q) (by decide) (by decide) (by decide) (by decide) (by decide) (by decide) ?_
  refine r_putF dX1_init_22 gX1_18 rfl ⟨_, _, rfl⟩ (by decide) rfl (by decide) (fun a => ⟨rfl, rfl⟩) (by decide) ?_
  refine r_vret dX1_init_25 rfl ⟨rfl, rfl, fun k hk => ?_⟩
  by_cases h1 : k < 202
  · refine (va_up_n (by omega)).trans ?_
    refine (va_up_n (by omega)).trans ?_
    refine (va_up_n (by omega)).trans ?_
    refine (va_up_n (by omega)).trans ?_
    refine (va_up_n (by omega)).trans ?_
    refine (va_up_n (by omega)).trans ?_
    refine (va_up_n (by omega)).trans ?_
    exact (kh_lt h1).symm
  rcases (show k = 202 ∨ k = 203 ∨ k = 204 ∨ k = 205 by omega) with rfl | rfl | rfl | rfl
  · rfl
  · rfl
  · rfl
  · rfl
set_option maxRecDepth 20000 in
set_option maxHeartbeats 2000000 in
theorem kX9_206 {G : q_G} {h : q_H} : q_W G mX9_init 1 3 240 (kP h 206 210) 0 (q_ent mX9_init [.ref 206]) [] 207 (va_up h 206 (.inr (9, [.int 0, .null, .int 0, .null, .null, .int 0, .int 0, .int 0]))) := by
  show q_W G mX9_init 1 3 240 _ 0 [some (.ref 206)] [] 207 _
  refine r_aload_n dX9_init_0 rfl rfl ?_
  refine r_objInit dX9_init_1 kwO_X9 kwO_inst kwO_code (by decide) (Nat.le_of_ble_eq_true rfl) ?_
  refine r_aload_n dX9_init_4 rfl rfl ?_
  refine r_bipush (v := 80) dX9_init_5 (by decide) ?_
  refine r_newa (t := 2) (N := 80) (ty := .char) (b := (80, .inl (fun _ => 0))) dX9_init_7 rfl (fun _ => rfl) (fun CC q => by cases q) kwA_char (fun _ => rfl) (fun f q => by cases q) (by decide) (by decide) (by decide) (by decide) (by decide) (by decide) ?_
  refine r_putF dX9_init_9 gX9_9 rfl ⟨_, _, rfl⟩ (by decide) rfl (by decide) (fun a => ⟨rfl, rfl⟩) (by decide) ?_
  refine r_aload_n dX9_init_12 rfl rfl ?_
  refine r_bipush (v := 80) dX9_init_13 (by decide) ?_
  refine r_newa (t := 0) (N := 80) (ty := .int) (b := (80, .inl (fun _ => 0))) dX9_init_15 rfl (fun _ => rfl) (fun CC q => by cases q) kwA_int (fun _ => rfl) (fun f q => by cases q) (by decide) (by decide) (by decide) (by decide) (by decide) (by decide) ?_
  refine r_putF dX9_init_17 gX9_15 rfl ⟨_, _, rfl⟩ (by decide) rfl (by decide) (fun a => ⟨rfl, rfl⟩) (by decide) ?_
  refine r_aload_n dX9_init_20 rfl rfl ?_
  refine r_bipush (v := 80) dX9_init_21 (by decide) ?_
  refine r_newa (t := 0) (N := 80) (ty := .int) (b := (80, .inl (fun _ => 0))) dX9_init_23 rfl (fun _ => rfl) (fun CC q => by cases q) kwA_int (fun _ => rfl) (fun f q => by cases q) (by decide) (by decide) (by decide) (by decide) (by decide) (by decide) ?_
  refine r_putF dX9_init_25 gX9_19 rfl ⟨_, _, rfl⟩ (by decide) rfl (by decide) (fun a => ⟨rfl, rfl⟩) (by decide) ?_
  refine r_vret dX9_init_28 rfl ⟨rfl, rfl, fun k hk => ?_⟩
  by_cases h1 : k < 206
  · refine (va_up_n (by omega)).trans ?_
    refine (va_up_n (by omega)).trans ?_
    refine (va_up_n (by omega)).trans ?_
    refine (va_up_n (by omega)).trans ?_
    refine (va_up_n (by omega)).trans ?_
    refine (va_up_n (by omega)).trans ?_
    refine (va_up_n (by omega)).trans ?_
    exact (kh_lt h1).symm
  rcases (show k = 206 ∨ k = 207 ∨ k = 208 ∨ k = 209 by omega) with rfl | rfl | rfl | rfl
  · rfl
  · rfl
  · rfl
  · rfl
set_option maxRecDepth 20000 in
set_option maxHeartbeats 2000000 in
theorem kX4_210 {G : q_G} {h : q_H} : q_W G mX4_init 1 1 4 (kP h 210 212) 0 (q_ent mX4_init [.ref 210]) [] 211 (va_up h 210 (.inr (4, [.int 0, .null]))) := by
  show q_W G mX4_init 1 1 4 _ 0 [some (.ref 210)] [] 211 _
  refine r_aload_n dX4_init_0 rfl rfl ?_
  refine r_objInit dX4_init_1 kwO_X4 kwO_inst kwO_code (by decide) (Nat.le_of_ble_eq_true rfl) ?_
  refine r_aload_n dX4_init_4 rfl rfl ?_
  refine r_iconst (v := 4) dX4_init_5 (by decide) ?_
  refine r_newa (t := 0) (N := 4) (ty := .int) (b := (4, .inl (fun _ => 0))) dX4_init_6 rfl (fun _ => rfl) (fun CC q => by cases q) kwA_int (fun _ => rfl) (fun f q => by cases q) (by decide) (by decide) (by decide) (by decide) (by decide) (by decide) ?_
  refine r_putF dX4_init_8 gX4_9 rfl ⟨_, _, rfl⟩ (by decide) rfl (by decide) (fun a => ⟨rfl, rfl⟩) (by decide) ?_
  refine r_vret dX4_init_11 rfl ⟨rfl, rfl, fun k hk => ?_⟩
  by_cases h1 : k < 210
  · refine (va_up_n (by omega)).trans ?_
    refine (va_up_n (by omega)).trans ?_
    refine (va_up_n (by omega)).trans ?_
    exact (kh_lt h1).symm
  rcases (show k = 210 ∨ k = 211 by omega) with rfl | rfl
  · rfl
  · rfl
set_option maxRecDepth 20000 in
set_option maxHeartbeats 2000000 in
theorem kX11_0 {G : q_G} {h : q_H} : q_W G mX11_init 3 211 2062 (kP h 0 212) 0 (q_ent mX11_init [.ref 0]) [] 1 (va_up h 0 (.inr (11, [.null, .null, .null, .null, .null, .null, .null, .null, .null, .null, .null, .null, .null, .int 0]))) := by
  show q_W G mX11_init 3 211 2062 _ 0 [some (.ref 0)] [] 1 _
  refine r_aload_n dX11_init_0 rfl rfl ?_
  refine r_objInit dX11_init_1 kwO_X11 kwO_inst kwO_code (by decide) (Nat.le_of_ble_eq_true rfl) ?_
  refine r_aload_n dX11_init_4 rfl rfl ?_
  refine k_newX7 dX11_init_5 kwL_X11_7 (by decide) (by decide) (by decide) ?_
  refine r_dup dX11_init_8 rfl ?_
  refine k_call mX7_init (m := 42) dX11_init_9 okX7_init (Or.inr lX11_9) npX7_init (by decide) (by decide) (by decide) (Nat.le_of_ble_eq_true rfl) (Nat.le_of_ble_eq_true rfl) kX7_1 ?_
  refine r_putF dX11_init_12 gX11_10 rfl ⟨_, _, rfl⟩ (by decide) rfl (by decide) (fun a => ⟨rfl, rfl⟩) (by decide) ?_
  refine r_aload_n dX11_init_15 rfl rfl ?_
  refine k_newX7 dX11_init_16 kwL_X11_7 (by decide) (by decide) (by decide) ?_
  refine r_dup dX11_init_19 rfl ?_
  refine k_call mX7_init (m := 83) dX11_init_20 okX7_init (Or.inr lX11_9) npX7_init (by decide) (by decide) (by decide) (Nat.le_of_ble_eq_true rfl) (Nat.le_of_ble_eq_true rfl) kX7_42 ?_
  refine r_putF dX11_init_23 gX11_16 rfl ⟨_, _, rfl⟩ (by decide) rfl (by decide) (fun a => ⟨rfl, rfl⟩) (by decide) ?_
  refine r_aload_n dX11_init_26 rfl rfl ?_
  refine k_newX7 dX11_init_27 kwL_X11_7 (by decide) (by decide) (by decide) ?_
  refine r_dup dX11_init_30 rfl ?_
  refine k_call mX7_init (m := 124) dX11_init_31 okX7_init (Or.inr lX11_9) npX7_init (by decide) (by decide) (by decide) (Nat.le_of_ble_eq_true rfl) (Nat.le_of_ble_eq_true rfl) kX7_83 ?_
  refine r_putF dX11_init_34 gX11_19 rfl ⟨_, _, rfl⟩ (by decide) rfl (by decide) (fun a => ⟨rfl, rfl⟩) (by decide) ?_
  refine r_aload_n dX11_init_37 rfl rfl ?_
  refine k_newX10 dX11_init_38 kwL_X11_22 (by decide) (by decide) (by decide) ?_
  refine r_dup dX11_init_41 rfl ?_
  refine k_call mX10_init (m := 132) dX11_init_42 okX10_init (Or.inr lX11_24) npX10_init (by decide) (by decide) (by decide) (Nat.le_of_ble_eq_true rfl) (Nat.le_of_ble_eq_true rfl) kX10_124 ?_
  refine r_putF dX11_init_45 gX11_25 rfl ⟨_, _, rfl⟩ (by decide) rfl (by decide) (fun a => ⟨rfl, rfl⟩) (by decide) ?_
  refine r_aload_n dX11_init_48 rfl rfl ?_
  refine k_newX10 dX11_init_49 kwL_X11_22 (by decide) (by decide) (by decide) ?_
  refine r_dup dX11_init_52 rfl ?_
  refine k_call mX10_init (m := 140) dX11_init_53 okX10_init (Or.inr lX11_24) npX10_init (by decide) (by decide) (by decide) (Nat.le_of_ble_eq_true rfl) (Nat.le_of_ble_eq_true rfl) kX10_132 ?_
  refine r_putF dX11_init_56 gX11_29 rfl ⟨_, _, rfl⟩ (by decide) rfl (by decide) (fun a => ⟨rfl, rfl⟩) (by decide) ?_
  refine r_aload_n dX11_init_59 rfl rfl ?_
  refine k_newX2 dX11_init_60 kwL_X11_32 (by decide) (by decide) (by decide) ?_
  refine r_dup dX11_init_63 rfl ?_
  refine k_call mX2_init (m := 144) dX11_init_64 okX2_init (Or.inr lX11_34) npX2_init (by decide) (by decide) (by decide) (Nat.le_of_ble_eq_true rfl) (Nat.le_of_ble_eq_true rfl) kX2_140 ?_
  refine r_putF dX11_init_67 gX11_35 rfl ⟨_, _, rfl⟩ (by decide) rfl (by decide) (fun a => ⟨rfl, rfl⟩) (by decide) ?_
  refine r_aload_n dX11_init_70 rfl rfl ?_
  refine k_newX3 dX11_init_71 kwL_X11_39 (by decide) (by decide) (by decide) ?_
  refine r_dup dX11_init_74 rfl ?_
  refine k_call mX3_init (m := 147) dX11_init_75 okX3_init (Or.inr lX11_41) npX3_init (by decide) (by decide) (by decide) (Nat.le_of_ble_eq_true rfl) (Nat.le_of_ble_eq_true rfl) kX3_144 ?_
  refine r_putF dX11_init_78 gX11_42 rfl ⟨_, _, rfl⟩ (by decide) rfl (by decide) (fun a => ⟨rfl, rfl⟩) (by decide) ?_
  refine r_aload_n dX11_init_81 rfl rfl ?_
  refine k_newX6 dX11_init_82 kwL_X11_46 (by decide) (by decide) (by decide) ?_
  refine r_dup dX11_init_85 rfl ?_
  refine k_call mX6_init (m := 150) dX11_init_86 okX6_init (Or.inr lX11_48) npX6_init (by decide) (by decide) (by decide) (Nat.le_of_ble_eq_true rfl) (Nat.le_of_ble_eq_true rfl) kX6_147 ?_
  refine r_putF dX11_init_89 gX11_49 rfl ⟨_, _, rfl⟩ (by decide) rfl (by decide) (fun a => ⟨rfl, rfl⟩) (by decide) ?_
  refine r_aload_n dX11_init_92 rfl rfl ?_
  refine k_newX0 dX11_init_93 kwL_X11_53 (by decide) (by decide) (by decide) ?_
  refine r_dup dX11_init_96 rfl ?_
  refine k_call mX0_init (m := 161) dX11_init_97 okX0_init (Or.inr lX11_55) npX0_init (by decide) (by decide) (by decide) (Nat.le_of_ble_eq_true rfl) (Nat.le_of_ble_eq_true rfl) kX0_150 ?_
  refine r_putF dX11_init_100 gX11_56 rfl ⟨_, _, rfl⟩ (by decide) rfl (by decide) (fun a => ⟨rfl, rfl⟩) (by decide) ?_
  refine r_aload_n dX11_init_103 rfl rfl ?_
  refine k_newX8 dX11_init_104 kwL_X11_60 (by decide) (by decide) (by decide) ?_
  refine r_dup dX11_init_107 rfl ?_
  refine k_call mX8_init (m := 202) dX11_init_108 okX8_init (Or.inr lX11_62) npX8_init (by decide) (by decide) (by decide) (Nat.le_of_ble_eq_true rfl) (Nat.le_of_ble_eq_true rfl) kX8_161 ?_
  refine r_putF dX11_init_111 gX11_63 rfl ⟨_, _, rfl⟩ (by decide) rfl (by decide) (fun a => ⟨rfl, rfl⟩) (by decide) ?_
  refine r_aload_n dX11_init_114 rfl rfl ?_
  refine k_newX1 dX11_init_115 kwL_X11_67 (by decide) (by decide) (by decide) ?_
  refine r_dup dX11_init_118 rfl ?_
  refine k_call mX1_init (m := 206) dX11_init_119 okX1_init (Or.inr lX11_69) npX1_init (by decide) (by decide) (by decide) (Nat.le_of_ble_eq_true rfl) (Nat.le_of_ble_eq_true rfl) kX1_202 ?_
  refine r_putF dX11_init_122 gX11_70 rfl ⟨_, _, rfl⟩ (by decide) rfl (by decide) (fun a => ⟨rfl, rfl⟩) (by decide) ?_
  refine r_aload_n dX11_init_125 rfl rfl ?_
  refine k_newX9 dX11_init_126 kwL_X11_74 (by decide) (by decide) (by decide) ?_
  refine r_dup dX11_init_129 rfl ?_
  refine k_call mX9_init (m := 210) dX11_init_130 okX9_init (Or.inr lX11_76) npX9_init (by decide) (by decide) (by decide) (Nat.le_of_ble_eq_true rfl) (Nat.le_of_ble_eq_true rfl) kX9_206 ?_
  refine r_putF dX11_init_133 gX11_77 rfl ⟨_, _, rfl⟩ (by decide) rfl (by decide) (fun a => ⟨rfl, rfl⟩) (by decide) ?_
  refine r_aload_n dX11_init_136 rfl rfl ?_
  refine k_newX4 dX11_init_137 kwL_X11_81 (by decide) (by decide) (by decide) ?_
  refine r_dup dX11_init_140 rfl ?_
  refine k_call mX4_init (m := 212) dX11_init_141 okX4_init (Or.inr lX11_83) npX4_init (by decide) (by decide) (by decide) (Nat.le_of_ble_eq_true rfl) (Nat.le_of_ble_eq_true rfl) kX4_210 ?_
  refine r_putF dX11_init_144 gX11_84 rfl ⟨_, _, rfl⟩ (by decide) rfl (by decide) (fun a => ⟨rfl, rfl⟩) (by decide) ?_
  refine r_vret dX11_init_147 rfl ⟨rfl, rfl, fun k hk => ?_⟩
  by_cases h1 : k < 0
  · refine (va_up_n (by omega)).trans ?_
    refine (kh_lt (by omega)).trans ?_
    refine (va_up_n (by omega)).trans ?_
    refine (kh_lt (by omega)).trans ?_
    refine (va_up_n (by omega)).trans ?_
    refine (kh_lt (by omega)).trans ?_
    refine (va_up_n (by omega)).trans ?_
    refine (kh_lt (by omega)).trans ?_
    refine (va_up_n (by omega)).trans ?_
    refine (kh_lt (by omega)).trans ?_
    refine (va_up_n (by omega)).trans ?_
    refine (kh_lt (by omega)).trans ?_
    refine (va_up_n (by omega)).trans ?_
    refine (kh_lt (by omega)).trans ?_
    refine (va_up_n (by omega)).trans ?_
    refine (kh_lt (by omega)).trans ?_
    refine (va_up_n (by omega)).trans ?_
    refine (kh_lt (by omega)).trans ?_
    refine (va_up_n (by omega)).trans ?_
    refine (kh_lt (by omega)).trans ?_
    refine (va_up_n (by omega)).trans ?_
    refine (kh_lt (by omega)).trans ?_
    refine (va_up_n (by omega)).trans ?_
    refine (kh_lt (by omega)).trans ?_
    refine (va_up_n (by omega)).trans ?_
    refine (kh_lt (by omega)).trans ?_
    refine (va_up_n (by omega)).trans ?_
    exact (kh_lt h1).symm
  by_cases h0 : k = 0
  · subst h0; rfl
  · refine Eq.trans ?_ (kh_ge (by omega)).symm
    refine (va_up_n (by omega)).trans ?_
    by_cases h210 : k < 210
    case neg => exact kh_ge h210
    refine (kh_lt h210).trans ?_
    refine (va_up_n (by omega)).trans ?_
    by_cases h206 : k < 206
    case neg => exact kh_ge h206
    refine (kh_lt h206).trans ?_
    refine (va_up_n (by omega)).trans ?_
    by_cases h202 : k < 202
    case neg => exact kh_ge h202
    refine (kh_lt h202).trans ?_
    refine (va_up_n (by omega)).trans ?_
    by_cases h161 : k < 161
    case neg => exact kh_ge h161
    refine (kh_lt h161).trans ?_
    refine (va_up_n (by omega)).trans ?_
    by_cases h150 : k < 150
    case neg => exact kh_ge h150
    refine (kh_lt h150).trans ?_
    refine (va_up_n (by omega)).trans ?_
    by_cases h147 : k < 147
    case neg => exact kh_ge h147
    refine (kh_lt h147).trans ?_
    refine (va_up_n (by omega)).trans ?_
    by_cases h144 : k < 144
    case neg => exact kh_ge h144
    refine (kh_lt h144).trans ?_
    refine (va_up_n (by omega)).trans ?_
    by_cases h140 : k < 140
    case neg => exact kh_ge h140
    refine (kh_lt h140).trans ?_
    refine (va_up_n (by omega)).trans ?_
    by_cases h132 : k < 132
    case neg => exact kh_ge h132
    refine (kh_lt h132).trans ?_
    refine (va_up_n (by omega)).trans ?_
    by_cases h124 : k < 124
    case neg => exact kh_ge h124
    refine (kh_lt h124).trans ?_
    refine (va_up_n (by omega)).trans ?_
    by_cases h83 : k < 83
    case neg => exact kh_ge h83
    refine (kh_lt h83).trans ?_
    refine (va_up_n (by omega)).trans ?_
    by_cases h42 : k < 42
    case neg => exact kh_ge h42
    refine (kh_lt h42).trans ?_
    refine (va_up_n (by omega)).trans ?_
    by_cases h1 : k < 1
    case neg => exact kh_ge h1
    refine (kh_lt h1).trans ?_
    exact absurd (show k < 1 by assumption) (by omega)
set_option maxRecDepth 20000 in
set_option maxHeartbeats 2000000 in
theorem kX12_212 {G : q_G} {h : q_H} : q_W G mX12_init 1 21 1317 (kP h 212 234) 0 (q_ent mX12_init [.ref 212]) [] 213 (va_up h 212 (.inr (12, [.null, .null, .int 0, .int 0, .null, .int 0, .null, .int 0, .null, .int 0, .int 0, .null, .null, .null, .int 0, .int 0, .null, .int 0, .null, .null, .null, .int 0, .null, .null, .null, .null, .null, .null, .null, .null, .int 0, .int 0, .int 0, .int 0, .int 0, .int 0, .null]))) := by
  show q_W G mX12_init 1 21 1317 _ 0 [some (.ref 212)] [] 213 _
  refine r_aload_n dX12_init_0 rfl rfl ?_
  refine r_objInit dX12_init_1 kwO_X12 kwO_inst kwO_code (by decide) (Nat.le_of_ble_eq_true rfl) ?_
  refine r_aload_n dX12_init_4 rfl rfl ?_
  refine r_sipush (v := 203) dX12_init_5 (by decide) ?_
  refine r_newa (t := 0) (N := 203) (ty := .int) (b := (203, .inl (fun _ => 0))) dX12_init_8 rfl (fun _ => rfl) (fun CC q => by cases q) kwA_int (fun _ => rfl) (fun f q => by cases q) (by decide) (by decide) (by decide) (by decide) (by decide) (by decide) ?_
  refine r_putF dX12_init_10 gX12_9 rfl ⟨_, _, rfl⟩ (by decide) rfl (by decide) (fun a => ⟨rfl, rfl⟩) (by decide) ?_
  refine r_aload_n dX12_init_13 rfl rfl ?_
  refine r_sipush (v := 203) dX12_init_14 (by decide) ?_
  refine r_newa (t := 0) (N := 203) (ty := .int) (b := (203, .inl (fun _ => 0))) dX12_init_17 rfl (fun _ => rfl) (fun CC q => by cases q) kwA_int (fun _ => rfl) (fun f q => by cases q) (by decide) (by decide) (by decide) (by decide) (by decide) (by decide) ?_
  refine r_putF dX12_init_19 gX12_13 rfl ⟨_, _, rfl⟩ (by decide) rfl (by decide) (fun a => ⟨rfl, rfl⟩) (by decide) ?_
  refine r_aload_n dX12_init_22 rfl rfl ?_
  refine r_bipush (v := 80) dX12_init_23 (by decide) ?_
  refine r_newa (t := 2) (N := 80) (ty := .char) (b := (80, .inl (fun _ => 0))) dX12_init_25 rfl (fun _ => rfl) (fun CC q => by cases q) kwA_char (fun _ => rfl) (fun f q => by cases q) (by decide) (by decide) (by decide) (by decide) (by decide) (by decide) ?_
  refine r_putF dX12_init_27 gX12_16 rfl ⟨_, _, rfl⟩ (by decide) rfl (by decide) (fun a => ⟨rfl, rfl⟩) (by decide) ?_
  refine r_aload_n dX12_init_30 rfl rfl ?_
  refine r_iconst (v := 5) dX12_init_31 (by decide) ?_
  refine r_newa (t := 0) (N := 5) (ty := .int) (b := (5, .inl (fun _ => 0))) dX12_init_32 rfl (fun _ => rfl) (fun CC q => by cases q) kwA_int (fun _ => rfl) (fun f q => by cases q) (by decide) (by decide) (by decide) (by decide) (by decide) (by decide) ?_
  refine r_putF dX12_init_34 gX12_20 rfl ⟨_, _, rfl⟩ (by decide) rfl (by decide) (fun a => ⟨rfl, rfl⟩) (by decide) ?_
  refine r_aload_n dX12_init_37 rfl rfl ?_
  refine r_iconst (v := 4) dX12_init_38 (by decide) ?_
  refine r_newa (t := 0) (N := 4) (ty := .int) (b := (4, .inl (fun _ => 0))) dX12_init_39 rfl (fun _ => rfl) (fun CC q => by cases q) kwA_int (fun _ => rfl) (fun f q => by cases q) (by decide) (by decide) (by decide) (by decide) (by decide) (by decide) ?_
  refine r_putF dX12_init_41 gX12_23 rfl ⟨_, _, rfl⟩ (by decide) rfl (by decide) (fun a => ⟨rfl, rfl⟩) (by decide) ?_
  refine r_aload_n dX12_init_44 rfl rfl ?_
  refine r_bipush (v := 20) dX12_init_45 (by decide) ?_
  refine r_newa (t := 0) (N := 20) (ty := .int) (b := (20, .inl (fun _ => 0))) dX12_init_47 rfl (fun _ => rfl) (fun CC q => by cases q) kwA_int (fun _ => rfl) (fun f q => by cases q) (by decide) (by decide) (by decide) (by decide) (by decide) (by decide) ?_
  refine r_putF dX12_init_49 gX12_26 rfl ⟨_, _, rfl⟩ (by decide) rfl (by decide) (fun a => ⟨rfl, rfl⟩) (by decide) ?_
  refine r_aload_n dX12_init_52 rfl rfl ?_
  refine r_bipush (v := 20) dX12_init_53 (by decide) ?_
  refine r_newa (t := 0) (N := 20) (ty := .int) (b := (20, .inl (fun _ => 0))) dX12_init_55 rfl (fun _ => rfl) (fun CC q => by cases q) kwA_int (fun _ => rfl) (fun f q => by cases q) (by decide) (by decide) (by decide) (by decide) (by decide) (by decide) ?_
  refine r_putF dX12_init_57 gX12_29 rfl ⟨_, _, rfl⟩ (by decide) rfl (by decide) (fun a => ⟨rfl, rfl⟩) (by decide) ?_
  refine r_aload_n dX12_init_60 rfl rfl ?_
  refine r_iconst (v := 4) dX12_init_61 (by decide) ?_
  refine r_newa (t := 1) (N := 4) (ty := .boolean) (b := (4, .inl (fun _ => 0))) dX12_init_62 rfl (fun _ => rfl) (fun CC q => by cases q) kwA_boolean (fun _ => rfl) (fun f q => by cases q) (by decide) (by decide) (by decide) (by decide) (by decide) (by decide) ?_
  refine r_putF dX12_init_64 gX12_32 rfl ⟨_, _, rfl⟩ (by decide) rfl (by decide) (fun a => ⟨rfl, rfl⟩) (by decide) ?_
  refine r_aload_n dX12_init_67 rfl rfl ?_
  refine r_iconst (v := -1) dX12_init_68 (by decide) ?_
  refine r_putf dX12_init_69 gX12_36 (by decide) rfl (by decide) rfl rfl ?_
  refine r_aload_n dX12_init_72 rfl rfl ?_
  refine r_bipush (v := 20) dX12_init_73 (by decide) ?_
  refine r_newa (t := 0) (N := 20) (ty := .int) (b := (20, .inl (fun _ => 0))) dX12_init_75 rfl (fun _ => rfl) (fun CC q => by cases q) kwA_int (fun _ => rfl) (fun f q => by cases q) (by decide) (by decide) (by decide) (by decide) (by decide) (by decide) ?_
  refine r_putF dX12_init_77 gX12_40 rfl ⟨_, _, rfl⟩ (by decide) rfl (by decide) (fun a => ⟨rfl, rfl⟩) (by decide) ?_
  refine r_aload_n dX12_init_80 rfl rfl ?_
  refine r_iconst (v := 5) dX12_init_81 (by decide) ?_
  refine r_newa (t := 0) (N := 5) (ty := .int) (b := (5, .inl (fun _ => 0))) dX12_init_82 rfl (fun _ => rfl) (fun CC q => by cases q) kwA_int (fun _ => rfl) (fun f q => by cases q) (by decide) (by decide) (by decide) (by decide) (by decide) (by decide) ?_
  refine r_putF dX12_init_84 gX12_43 rfl ⟨_, _, rfl⟩ (by decide) rfl (by decide) (fun a => ⟨rfl, rfl⟩) (by decide) ?_
  refine r_aload_n dX12_init_87 rfl rfl ?_
  refine r_bipush (v := 20) dX12_init_88 (by decide) ?_
  refine r_newa (t := 0) (N := 20) (ty := .int) (b := (20, .inl (fun _ => 0))) dX12_init_90 rfl (fun _ => rfl) (fun CC q => by cases q) kwA_int (fun _ => rfl) (fun f q => by cases q) (by decide) (by decide) (by decide) (by decide) (by decide) (by decide) ?_
  refine r_putF dX12_init_92 gX12_46 rfl ⟨_, _, rfl⟩ (by decide) rfl (by decide) (fun a => ⟨rfl, rfl⟩) (by decide) ?_
  refine r_aload_n dX12_init_95 rfl rfl ?_
  refine r_iconst (v := 5) dX12_init_96 (by decide) ?_
  refine r_newa (t := 0) (N := 5) (ty := .int) (b := (5, .inl (fun _ => 0))) dX12_init_97 rfl (fun _ => rfl) (fun CC q => by cases q) kwA_int (fun _ => rfl) (fun f q => by cases q) (by decide) (by decide) (by decide) (by decide) (by decide) (by decide) ?_
  refine r_putF dX12_init_99 gX12_49 rfl ⟨_, _, rfl⟩ (by decide) rfl (by decide) (fun a => ⟨rfl, rfl⟩) (by decide) ?_
  refine r_aload_n dX12_init_102 rfl rfl ?_
  refine r_bipush (v := 20) dX12_init_103 (by decide) ?_
  refine r_newa (t := 1) (N := 20) (ty := .boolean) (b := (20, .inl (fun _ => 0))) dX12_init_105 rfl (fun _ => rfl) (fun CC q => by cases q) kwA_boolean (fun _ => rfl) (fun f q => by cases q) (by decide) (by decide) (by decide) (by decide) (by decide) (by decide) ?_
  refine r_putF dX12_init_107 gX12_52 rfl ⟨_, _, rfl⟩ (by decide) rfl (by decide) (fun a => ⟨rfl, rfl⟩) (by decide) ?_
  refine r_aload_n dX12_init_110 rfl rfl ?_
  refine r_iconst (v := 5) dX12_init_111 (by decide) ?_
  refine r_newa (t := 0) (N := 5) (ty := .int) (b := (5, .inl (fun _ => 0))) dX12_init_112 rfl (fun _ => rfl) (fun CC q => by cases q) kwA_int (fun _ => rfl) (fun f q => by cases q) (by decide) (by decide) (by decide) (by decide) (by decide) (by decide) ?_
  refine r_putF dX12_init_114 gX12_55 rfl ⟨_, _, rfl⟩ (by decide) rfl (by decide) (fun a => ⟨rfl, rfl⟩) (by decide) ?_
  refine r_aload_n dX12_init_117 rfl rfl ?_
  refine r_sipush (v := 400) dX12_init_118 (by decide) ?_
  refine r_newa (t := 0) (N := 400) (ty := .int) (b := (400, .inl (fun _ => 0))) dX12_init_121 rfl (fun _ => rfl) (fun CC q => by cases q) kwA_int (fun _ => rfl) (fun f q => by cases q) (by decide) (by decide) (by decide) (by decide) (by decide) (by decide) ?_
  refine r_putF dX12_init_123 gX12_58 rfl ⟨_, _, rfl⟩ (by decide) rfl (by decide) (fun a => ⟨rfl, rfl⟩) (by decide) ?_
  refine r_aload_n dX12_init_126 rfl rfl ?_
  refine r_bipush (v := 20) dX12_init_127 (by decide) ?_
  refine r_newa (t := 0) (N := 20) (ty := .int) (b := (20, .inl (fun _ => 0))) dX12_init_129 rfl (fun _ => rfl) (fun CC q => by cases q) kwA_int (fun _ => rfl) (fun f q => by cases q) (by decide) (by decide) (by decide) (by decide) (by decide) (by decide) ?_
  refine r_putF dX12_init_131 gX12_61 rfl ⟨_, _, rfl⟩ (by decide) rfl (by decide) (fun a => ⟨rfl, rfl⟩) (by decide) ?_
  refine r_aload_n dX12_init_134 rfl rfl ?_
  refine r_bipush (v := 20) dX12_init_135 (by decide) ?_
  refine r_newa (t := 1) (N := 20) (ty := .boolean) (b := (20, .inl (fun _ => 0))) dX12_init_137 rfl (fun _ => rfl) (fun CC q => by cases q) kwA_boolean (fun _ => rfl) (fun f q => by cases q) (by decide) (by decide) (by decide) (by decide) (by decide) (by decide) ?_
  refine r_putF dX12_init_139 gX12_64 rfl ⟨_, _, rfl⟩ (by decide) rfl (by decide) (fun a => ⟨rfl, rfl⟩) (by decide) ?_
  refine r_aload_n dX12_init_142 rfl rfl ?_
  refine r_bipush (v := 20) dX12_init_143 (by decide) ?_
  refine r_newa (t := 0) (N := 20) (ty := .int) (b := (20, .inl (fun _ => 0))) dX12_init_145 rfl (fun _ => rfl) (fun CC q => by cases q) kwA_int (fun _ => rfl) (fun f q => by cases q) (by decide) (by decide) (by decide) (by decide) (by decide) (by decide) ?_
  refine r_putF dX12_init_147 gX12_67 rfl ⟨_, _, rfl⟩ (by decide) rfl (by decide) (fun a => ⟨rfl, rfl⟩) (by decide) ?_
  refine r_aload_n dX12_init_150 rfl rfl ?_
  refine r_bipush (v := 20) dX12_init_151 (by decide) ?_
  refine r_newa (t := 0) (N := 20) (ty := .int) (b := (20, .inl (fun _ => 0))) dX12_init_153 rfl (fun _ => rfl) (fun CC q => by cases q) kwA_int (fun _ => rfl) (fun f q => by cases q) (by decide) (by decide) (by decide) (by decide) (by decide) (by decide) ?_
  refine r_putF dX12_init_155 gX12_70 rfl ⟨_, _, rfl⟩ (by decide) rfl (by decide) (fun a => ⟨rfl, rfl⟩) (by decide) ?_
  refine r_aload_n dX12_init_158 rfl rfl ?_
  refine r_bipush (v := 20) dX12_init_159 (by decide) ?_
  refine r_newa (t := 0) (N := 20) (ty := .int) (b := (20, .inl (fun _ => 0))) dX12_init_161 rfl (fun _ => rfl) (fun CC q => by cases q) kwA_int (fun _ => rfl) (fun f q => by cases q) (by decide) (by decide) (by decide) (by decide) (by decide) (by decide) ?_
  refine r_putF dX12_init_163 gX12_73 rfl ⟨_, _, rfl⟩ (by decide) rfl (by decide) (fun a => ⟨rfl, rfl⟩) (by decide) ?_
  refine r_aload_n dX12_init_166 rfl rfl ?_
  refine r_sipush (v := 203) dX12_init_167 (by decide) ?_
  refine r_newa (t := 0) (N := 203) (ty := .int) (b := (203, .inl (fun _ => 0))) dX12_init_170 rfl (fun _ => rfl) (fun CC q => by cases q) kwA_int (fun _ => rfl) (fun f q => by cases q) (by decide) (by decide) (by decide) (by decide) (by decide) (by decide) ?_
  refine r_putF dX12_init_172 gX12_76 rfl ⟨_, _, rfl⟩ (by decide) rfl (by decide) (fun a => ⟨rfl, rfl⟩) (by decide) ?_
  refine r_vret dX12_init_175 rfl ⟨rfl, rfl, fun k hk => ?_⟩
  by_cases h1 : k < 212
  · refine (va_up_n (by omega)).trans ?_
    refine (va_up_n (by omega)).trans ?_
    refine (va_up_n (by omega)).trans ?_
    refine (va_up_n (by omega)).trans ?_
    refine (va_up_n (by omega)).trans ?_
    refine (va_up_n (by omega)).trans ?_
    refine (va_up_n (by omega)).trans ?_
    refine (va_up_n (by omega)).trans ?_
    refine (va_up_n (by omega)).trans ?_
    refine (va_up_n (by omega)).trans ?_
    refine (va_up_n (by omega)).trans ?_
    refine (va_up_n (by omega)).trans ?_
    refine (va_up_n (by omega)).trans ?_
    refine (va_up_n (by omega)).trans ?_
    refine (va_up_n (by omega)).trans ?_
    refine (va_up_n (by omega)).trans ?_
    refine (va_up_n (by omega)).trans ?_
    refine (va_up_n (by omega)).trans ?_
    refine (va_up_n (by omega)).trans ?_
    refine (va_up_n (by omega)).trans ?_
    refine (va_up_n (by omega)).trans ?_
    refine (va_up_n (by omega)).trans ?_
    refine (va_up_n (by omega)).trans ?_
    refine (va_up_n (by omega)).trans ?_
    refine (va_up_n (by omega)).trans ?_
    refine (va_up_n (by omega)).trans ?_
    refine (va_up_n (by omega)).trans ?_
    refine (va_up_n (by omega)).trans ?_
    refine (va_up_n (by omega)).trans ?_
    refine (va_up_n (by omega)).trans ?_
    refine (va_up_n (by omega)).trans ?_
    refine (va_up_n (by omega)).trans ?_
    refine (va_up_n (by omega)).trans ?_
    refine (va_up_n (by omega)).trans ?_
    refine (va_up_n (by omega)).trans ?_
    refine (va_up_n (by omega)).trans ?_
    refine (va_up_n (by omega)).trans ?_
    refine (va_up_n (by omega)).trans ?_
    refine (va_up_n (by omega)).trans ?_
    refine (va_up_n (by omega)).trans ?_
    refine (va_up_n (by omega)).trans ?_
    refine (va_up_n (by omega)).trans ?_
    refine (va_up_n (by omega)).trans ?_
    refine (va_up_n (by omega)).trans ?_
    exact (kh_lt h1).symm
  rcases (show k = 212 ∨ k = 213 ∨ k = 214 ∨ k = 215 ∨ k = 216 ∨ k = 217 ∨ k = 218 ∨ k = 219 ∨ k = 220 ∨ k = 221 ∨ k = 222 ∨ k = 223 ∨ k = 224 ∨ k = 225 ∨ k = 226 ∨ k = 227 ∨ k = 228 ∨ k = 229 ∨ k = 230 ∨ k = 231 ∨ k = 232 ∨ k = 233 by omega) with rfl | rfl | rfl | rfl | rfl | rfl | rfl | rfl | rfl | rfl | rfl | rfl | rfl | rfl | rfl | rfl | rfl | rfl | rfl | rfl | rfl | rfl
  · rfl
  · rfl
  · rfl
  · rfl
  · rfl
  · rfl
  · rfl
  · rfl
  · rfl
  · rfl
  · rfl
  · rfl
  · rfl
  · rfl
  · rfl
  · rfl
  · rfl
  · rfl
  · rfl
  · rfl
  · rfl
  · rfl
