/-! ===== the system once it is made: 236 cells, references fixed; the state is what the ints are: s k j, the place j of the cell k ===== -/
abbrev s_T : Type := Nat → Nat → Int32
abbrev q_D : Type := (Nat × Nat × Option Nat) ⊕ (Nat × List (Option Nat))
def q_dv (a b : Int32) : UInt64 := if b ≤ 0 then 0 else FP.ddiv (FP.i2d a) (FP.i2d b)
def q_fs : List (Option Nat) → (Nat → Int32) → Nat → List Value
  | [], _, _ => []
  | some q :: r, f, j => .ref q :: q_fs r f (j + 1)
  | none :: r, f, j => .int (f j) :: q_fs r f (j + 1)
def q_cell (x : q_D) (f : Nat → Int32) : q_C := match x with
  | .inl (t, len, none) => if t = 3 then .inl (3, (len, .inr (.inl (fun j => (f j).toInt64)))) else if t = 4 then .inl (4, (len, .inr (.inr (.inr (.inl (fun _ => q_dv (f 0) (f 1))))))) else .inl (t, (len, .inl f))
  | .inl (t, len, some b) => .inl (t, (len, .inr (.inr (.inr (.inr (fun i => if i < len then some (b + i) else none))))))
  | .inr (ci, fr) => .inr (ci, q_fs fr f 0)
def q_lays : List q_D := [.inr (11, [some 1, some 42, some 83, some 124, some 132, some 140, some 144, some 147, some 150, some 161, some 202, some 206, some 210, none]), .inr (7, [none, none, some 2, some 8, some 9, some 15, some 16, some 17, some 18, some 19, some 20, some 24, some 25, some 30, some 35]), .inl (5, 5, some 3), .inl (0, 3, none), .inl (0, 3, none), .inl (0, 3, none), .inl (0, 3, none), .inl (0, 3, none), .inl (0, 5, none), .inl (5, 5, some 10), .inl (0, 4, none), .inl (0, 4, none), .inl (0, 4, none), .inl (0, 4, none), .inl (0, 4, none), .inl (0, 20, none), .inl (0, 20, none), .inl (0, 20, none), .inl (0, 20, none), .inl (0, 20, none), .inl (5, 3, some 21), .inl (0, 3, none), .inl (0, 3, none), .inl (0, 3, none), .inl (0, 4, none), .inl (5, 4, some 26), .inl (0, 3, none), .inl (0, 3, none), .inl (0, 3, none), .inl (0, 3, none), .inl (5, 4, some 31), .inl (0, 3, none), .inl (0, 3, none), .inl (0, 3, none), .inl (0, 3, none), .inr (5, [some 36, some 37]), .inl (0, 4, none), .inl (5, 4, some 38), .inl (0, 5, none), .inl (0, 5, none), .inl (0, 5, none), .inl (0, 5, none), .inr (7, [none, none, some 43, some 49, some 50, some 56, some 57, some 58, some 59, some 60, some 61, some 65, some 66, some 71, some 76]), .inl (5, 5, some 44), .inl (0, 3, none), .inl (0, 3, none), .inl (0, 3, none), .inl (0, 3, none), .inl (0, 3, none), .inl (0, 5, none), .inl (5, 5, some 51), .inl (0, 4, none), .inl (0, 4, none), .inl (0, 4, none), .inl (0, 4, none), .inl (0, 4, none), .inl (0, 20, none), .inl (0, 20, none), .inl (0, 20, none), .inl (0, 20, none), .inl (0, 20, none), .inl (5, 3, some 62), .inl (0, 3, none), .inl (0, 3, none), .inl (0, 3, none), .inl (0, 4, none), .inl (5, 4, some 67), .inl (0, 3, none), .inl (0, 3, none), .inl (0, 3, none), .inl (0, 3, none), .inl (5, 4, some 72), .inl (0, 3, none), .inl (0, 3, none), .inl (0, 3, none), .inl (0, 3, none), .inr (5, [some 77, some 78]), .inl (0, 4, none), .inl (5, 4, some 79), .inl (0, 5, none), .inl (0, 5, none), .inl (0, 5, none), .inl (0, 5, none), .inr (7, [none, none, some 84, some 90, some 91, some 97, some 98, some 99, some 100, some 101, some 102, some 106, some 107, some 112, some 117]), .inl (5, 5, some 85), .inl (0, 3, none), .inl (0, 3, none), .inl (0, 3, none), .inl (0, 3, none), .inl (0, 3, none), .inl (0, 5, none), .inl (5, 5, some 92), .inl (0, 4, none), .inl (0, 4, none), .inl (0, 4, none), .inl (0, 4, none), .inl (0, 4, none), .inl (0, 20, none), .inl (0, 20, none), .inl (0, 20, none), .inl (0, 20, none), .inl (0, 20, none), .inl (5, 3, some 103), .inl (0, 3, none), .inl (0, 3, none), .inl (0, 3, none), .inl (0, 4, none), .inl (5, 4, some 108), .inl (0, 3, none), .inl (0, 3, none), .inl (0, 3, none), .inl (0, 3, none), .inl (5, 4, some 113), .inl (0, 3, none), .inl (0, 3, none), .inl (0, 3, none), .inl (0, 3, none), .inr (5, [some 118, some 119]), .inl (0, 4, none), .inl (5, 4, some 120), .inl (0, 5, none), .inl (0, 5, none), .inl (0, 5, none), .inl (0, 5, none), .inr (10, [some 125, some 126, some 127, some 128, some 129, none, none, some 130, some 131, none, none]), .inl (0, 20, none), .inl (0, 20, none), .inl (0, 20, none), .inl (0, 20, none), .inl (1, 4, none), .inl (0, 5, none), .inl (0, 4, none), .inr (10, [some 133, some 134, some 135, some 136, some 137, none, none, some 138, some 139, none, none]), .inl (0, 20, none), .inl (0, 20, none), .inl (0, 20, none), .inl (0, 20, none), .inl (1, 4, none), .inl (0, 5, none), .inl (0, 4, none), .inr (2, [none, some 141, none, some 142, some 143]), .inl (0, 20, none), .inl (0, 20, none), .inl (0, 20, none), .inr (3, [some 145, some 146, none, none]), .inl (0, 20, none), .inl (0, 5, none), .inr (6, [none, some 148, some 149]), .inl (0, 5, none), .inl (0, 5, none), .inr (0, [none, some 151, some 152, some 160]), .inl (0, 4, none), .inr (10, [some 153, some 154, some 155, some 156, some 157, none, none, some 158, some 159, none, none]), .inl (0, 20, none), .inl (0, 20, none), .inl (0, 20, none), .inl (0, 20, none), .inl (1, 4, none), .inl (0, 5, none), .inl (0, 4, none), .inl (0, 5, none), .inr (8, [none, some 162, some 170, some 174, none, some 181, none, none, none]), .inr (10, [some 163, some 164, some 165, some 166, some 167, none, none, some 168, some 169, none, none]), .inl (0, 20, none), .inl (0, 20, none), .inl (0, 20, none), .inl (0, 20, none), .inl (1, 4, none), .inl (0, 5, none), .inl (0, 4, none), .inr (2, [none, some 171, none, some 172, some 173]), .inl (0, 20, none), .inl (0, 20, none), .inl (0, 20, none), .inr (5, [some 175, some 176]), .inl (0, 4, none), .inl (5, 4, some 177), .inl (0, 5, none), .inl (0, 5, none), .inl (0, 5, none), .inl (0, 5, none), .inl (5, 20, some 182), .inl (0, 20, none), .inl (0, 20, none), .inl (0, 20, none), .inl (0, 20, none), .inl (0, 20, none), .inl (0, 20, none), .inl (0, 20, none), .inl (0, 20, none), .inl (0, 20, none), .inl (0, 20, none), .inl (0, 20, none), .inl (0, 20, none), .inl (0, 20, none), .inl (0, 20, none), .inl (0, 20, none), .inl (0, 20, none), .inl (0, 20, none), .inl (0, 20, none), .inl (0, 20, none), .inl (0, 20, none), .inr (1, [none, some 203, some 204, some 205]), .inl (0, 5, none), .inl (0, 5, none), .inl (0, 5, none), .inr (9, [none, some 207, none, some 208, some 209, none, none, none]), .inl (2, 80, none), .inl (0, 80, none), .inl (0, 80, none), .inr (4, [none, some 211]), .inl (0, 4, none), .inr (12, [some 213, some 214, none, none, some 215, none, some 216, none, some 217, none, none, some 218, some 219, some 220, none, none, some 221, none, some 222, some 223, some 224, none, some 225, some 226, some 227, some 228, some 229, some 230, some 231, some 232, none, none, none, none, none, none, some 233]), .inl (0, 203, none), .inl (0, 203, none), .inl (2, 80, none), .inl (0, 5, none), .inl (0, 4, none), .inl (0, 20, none), .inl (0, 20, none), .inl (1, 4, none), .inl (0, 20, none), .inl (0, 5, none), .inl (0, 20, none), .inl (0, 5, none), .inl (1, 20, none), .inl (0, 5, none), .inl (0, 400, none), .inl (0, 20, none), .inl (1, 20, none), .inl (0, 20, none), .inl (0, 20, none), .inl (0, 20, none), .inl (0, 203, none), .inl (3, 1, none), .inl (4, 1, none)]
def q_lay (k : Nat) : q_D := (q_lays[k]?).getD (.inr (99, []))
def q_hs (s : s_T) : q_H := fun k => q_cell (q_lay k) (s k)
theorem q_lays_len : q_lays.length = 236 := by decide +kernel
theorem q_lay_lt {k : Nat} (h : q_lay k ≠ .inr (99, [])) : k < 236 := by
  by_cases hk : k < 236
  · exact hk
  · exfalso
    apply h
    unfold q_lay
    rw [List.getElem?_eq_none (by rw [q_lays_len]; omega)]
    rfl
theorem q_hs_up {s : s_T} {k : Nat} {g : Nat → Int32} : q_hs (va_up s k g) = va_up (q_hs s) k (q_cell (q_lay k) g) := by
  funext j
  unfold q_hs va_up
  by_cases e : j = k
  · subst e; simp
  · simp [e]
theorem q_fs_get : ∀ (fr : List (Option Nat)) (f : Nat → Int32) (i j : Nat), (q_fs fr f i)[j]? = (fr[j]?).map (fun o => match o with | some q => Value.ref q | none => Value.int (f (i + j)))
  | [], f, i, j => by simp [q_fs]
  | some q :: r, f, i, 0 => by simp [q_fs]
  | none :: r, f, i, 0 => by simp [q_fs]
  | some q :: r, f, i, j + 1 => by
    show (q_fs r f (i + 1))[j]? = _
    rw [q_fs_get r f (i + 1) j, show i + 1 + j = i + (j + 1) by omega]
    rfl
  | none :: r, f, i, j + 1 => by
    show (q_fs r f (i + 1))[j]? = _
    rw [q_fs_get r f (i + 1) j, show i + 1 + j = i + (j + 1) by omega]
    rfl
theorem q_fs_len : ∀ (fr : List (Option Nat)) (f : Nat → Int32) (i : Nat), (q_fs fr f i).length = fr.length
  | [], f, i => rfl
  | some q :: r, f, i => by show (q_fs r f (i + 1)).length + 1 = _; rw [q_fs_len r f (i + 1)]; rfl
  | none :: r, f, i => by show (q_fs r f (i + 1)).length + 1 = _; rw [q_fs_len r f (i + 1)]; rfl
theorem q_fs_set {fr : List (Option Nat)} {f : Nat → Int32} {j : Nat} {v : Int32} (h : fr[j]? = some none) : (q_fs fr f 0).set j (.int v) = q_fs fr (upd f j v) 0 := by
  apply List.ext_getElem?
  intro i
  by_cases e : j = i
  · subst e
    have hl : j < (q_fs fr f 0).length := by rw [q_fs_len]; exact (List.getElem?_eq_some_iff.mp h).1
    rw [List.getElem?_set_self hl, q_fs_get, h]
    simp [pk_us]
  · rw [List.getElem?_set_ne e, q_fs_get, q_fs_get]
    cases hf : fr[i]? with
    | none => rfl
    | some z => cases z with
      | some q => rfl
      | none => simp [pk_un (fun q => e q.symm : i ≠ j)]
/-- an end, said of the ints -/
def s_P (P : q_R → s_T → Prop) : q_R → Nat → q_H → Prop := fun r n h => n = 236 ∧ ∃ s, h = q_hs s ∧ P r s
abbrev s_W (G : q_G) (M : q_M) (d C S : Nat) (P : q_R → s_T → Prop) (pc : Nat) (L : List (Option Value)) (st : List Value) (s : s_T) : Prop := q_W G M d C S (s_P P) pc L st 236 (q_hs s)
abbrev s_X (G : q_G) (M : q_M) (d C S : Nat) (P : q_R → s_T → Prop) (pc : Nat) (L : List (Option Value)) (s : s_T) (E : String) : Prop := q_WX G M d C S (s_P P) pc L 236 (q_hs s) E
theorem s_end {P : q_R → s_T → Prop} {r : q_R} {s : s_T} (h : P r s) : s_P P r 236 (q_hs s) := ⟨rfl, s, rfl, h⟩
/-- the state with v at the place j of the cell k -/
def s_u (s : s_T) (k j : Nat) (v : Int32) : s_T := va_up s k (upd (s k) j v)
theorem s_u_eq {s : s_T} {k j : Nat} {v : Int32} : s_u s k j v k j = v := by simp [s_u, va_up, pk_us]
theorem s_u_ne {s : s_T} {k j k' j' : Nat} {v : Int32} (h : k' ≠ k ∨ j' ≠ j) : s_u s k j v k' j' = s k' j' := by
  unfold s_u va_up
  by_cases e : k' = k
  · subst e
    rw [if_pos rfl, pk_un (h.resolve_left (fun q => q rfl))]
  · rw [if_neg e]
theorem s_u_row {s : s_T} {k j k' : Nat} {v : Int32} (h : k' ≠ k) : s_u s k j v k' = s k' := by simp [s_u, va_up, h]
section SR1
variable {G : q_G} {M : q_M} {d C S : Nat} {P : q_R → s_T → Prop} {pc : Nat} {L : List (Option Value)} {st : List Value} {s : s_T}
theorem s_hs_o {s : s_T} {k ci : Nat} {fr : List (Option Nat)} (hl : q_lay k = .inr (ci, fr)) : q_hs s k = .inr (ci, q_fs fr (s k) 0) := by
  unfold q_hs
  rw [hl]
  rfl
theorem s_hs_i {s : s_T} {k t len : Nat} (hl : q_lay k = .inl (t, len, none)) (ht : t ≠ 3 ∧ t ≠ 4) : q_hs s k = .inl (t, (len, .inl (s k))) := by
  unfold q_hs
  rw [hl]
  show (if t = 3 then _ else if t = 4 then _ else _) = _
  rw [if_neg ht.1, if_neg ht.2]
theorem s_lt_o {k ci : Nat} {fr : List (Option Nat)} (hl : q_lay k = .inr (ci, fr)) (hc : ci ≠ 99) : k < 236 := q_lay_lt (by rw [hl]; intro q; cases q; exact hc rfl)
theorem s_lt_i {k : Nat} {a : Nat × Nat × Option Nat} (hl : q_lay k = .inl a) : k < 236 := q_lay_lt (by rw [hl]; intro q; cases q)
theorem q_fl_ne {own : String} {idx ci j : Nat} (h : q_fl own idx ci j) : ci ≠ 99 := by
  obtain ⟨CC, T, N, h1, -⟩ := h
  intro e
  subst e
  cases h1
theorem q_fp_ne {own : String} {idx ci j : Nat} {ty : FieldType} {fin : Bool} (h : q_fp own idx ci j ty fin) : ci ≠ 99 := by
  obtain ⟨CC, T, N, ty0, h1, -⟩ := h
  intro e
  subst e
  cases h1
theorem s_getI {k ci j idx : Nat} {fr : List (Option Nat)} {v : Int32} (dc : decode M.2.2.1 pc = .ok (.getfield idx, 3)) (hf : q_fl M.1 idx ci j) (hl : q_lay k = .inr (ci, fr)) (hr : fr[j]? = some none) (hv : s k j = v) (K : s_W G M d C S P (pc + 3) L (.int v :: st) s) : s_W G M d C S P pc L (.ref k :: st) s :=
  r_getf dc hf (s_lt_o hl (q_fl_ne hf)) (s_hs_o hl) (by rw [q_fs_get, hr]; show some (Value.int (s k (0 + j))) = _; rw [Nat.zero_add, hv]) K
theorem s_getR {k ci j idx q : Nat} {fr : List (Option Nat)} (dc : decode M.2.2.1 pc = .ok (.getfield idx, 3)) (hf : q_fl M.1 idx ci j) (hl : q_lay k = .inr (ci, fr)) (hr : fr[j]? = some (some q)) (K : s_W G M d C S P (pc + 3) L (.ref q :: st) s) : s_W G M d C S P pc L (.ref k :: st) s :=
  r_getf dc hf (s_lt_o hl (q_fl_ne hf)) (s_hs_o hl) (by rw [q_fs_get, hr]; rfl) K
theorem s_putI {k ci j idx : Nat} {fr : List (Option Nat)} {x : Int32} {ty : FieldType} (dc : decode M.2.2.1 pc = .ok (.putfield idx, 3)) (hf : q_fp M.1 idx ci j ty false) (hl : q_lay k = .inr (ci, fr)) (hr : fr[j]? = some none) (hn1 : narrow ty (.int x) = .int x) (hn2 : fits ty (.int x) = true) (K : s_W G M d C S P (pc + 3) L st (s_u s k j x)) : s_W G M d C S P pc L (.int x :: .ref k :: st) s := by
  refine r_putf dc hf (s_lt_o hl (q_fp_ne hf)) (s_hs_o hl) (by rw [q_fs_len]; exact (List.getElem?_eq_some_iff.mp hr).1) hn1 hn2 ?_
  have e : va_up (q_hs s) k (.inr (ci, (q_fs fr (s k) 0).set j (.int x))) = q_hs (s_u s k j x) := by
    unfold s_u
    rw [q_hs_up, hl, q_fs_set hr]
    rfl
  rw [e]
  exact K
theorem s_iald {k len : Nat} {i v : Int32} (dc : decode M.2.2.1 pc = .ok (.iaload, 1)) (hl : q_lay k = .inl (0, len, none)) (hi : vp_in i len) (hv : s k i.toNatClampNeg = v) (K : s_W G M d C S P (pc + 1) L (.int v :: st) s) : s_W G M d C S P pc L (.int i :: .ref k :: st) s := by
  subst hv
  exact r_iald dc (s_lt_i hl) (s_hs_i hl (by decide)) hi K
theorem s_zald {k len : Nat} {i v : Int32} (dc : decode M.2.2.1 pc = .ok (.baload, 1)) (hl : q_lay k = .inl (1, len, none)) (hi : vp_in i len) (hv : s k i.toNatClampNeg = v) (K : s_W G M d C S P (pc + 1) L (.int v :: st) s) : s_W G M d C S P pc L (.int i :: .ref k :: st) s := by
  subst hv
  exact r_zald dc (s_lt_i hl) (s_hs_i hl (by decide)) hi K
theorem s_cald {k len : Nat} {i v : Int32} (dc : decode M.2.2.1 pc = .ok (.caload, 1)) (hl : q_lay k = .inl (2, len, none)) (hi : vp_in i len) (hv : s k i.toNatClampNeg = v) (K : s_W G M d C S P (pc + 1) L (.int v :: st) s) : s_W G M d C S P pc L (.int i :: .ref k :: st) s := by
  subst hv
  exact r_cald dc (s_lt_i hl) (s_hs_i hl (by decide)) hi K
theorem s_iast {k len : Nat} {i x v : Int32} (dc : decode M.2.2.1 pc = .ok (.iastore, 1)) (hl : q_lay k = .inl (0, len, none)) (hi : vp_in i len) (hv : x = v) (K : s_W G M d C S P (pc + 1) L st (s_u s k i.toNatClampNeg v)) : s_W G M d C S P pc L (.int x :: .int i :: .ref k :: st) s := by
  refine r_iast dc (s_lt_i hl) (s_hs_i hl (by decide)) hi ?_
  have e : va_up (q_hs s) k (.inl (0, (len, .inl (upd (s k) i.toNatClampNeg x)))) = q_hs (s_u s k i.toNatClampNeg v) := by
    unfold s_u
    rw [q_hs_up, hl, hv]
    rfl
  rw [e]
  exact K
theorem s_zast {k len : Nat} {i x v : Int32} (dc : decode M.2.2.1 pc = .ok (.bastore, 1)) (hl : q_lay k = .inl (1, len, none)) (hi : vp_in i len) (hv : (vp_nar .boolean x) = v) (K : s_W G M d C S P (pc + 1) L st (s_u s k i.toNatClampNeg v)) : s_W G M d C S P pc L (.int x :: .int i :: .ref k :: st) s := by
  refine r_zast dc (s_lt_i hl) (s_hs_i hl (by decide)) hi ?_
  have e : va_up (q_hs s) k (.inl (1, (len, .inl (upd (s k) i.toNatClampNeg (vp_nar .boolean x))))) = q_hs (s_u s k i.toNatClampNeg v) := by
    unfold s_u
    rw [q_hs_up, hl, hv]
    rfl
  rw [e]
  exact K
theorem s_cast {k len : Nat} {i x v : Int32} (dc : decode M.2.2.1 pc = .ok (.castore, 1)) (hl : q_lay k = .inl (2, len, none)) (hi : vp_in i len) (hv : (vp_nar .char x) = v) (K : s_W G M d C S P (pc + 1) L st (s_u s k i.toNatClampNeg v)) : s_W G M d C S P pc L (.int x :: .int i :: .ref k :: st) s := by
  refine r_cast dc (s_lt_i hl) (s_hs_i hl (by decide)) hi ?_
  have e : va_up (q_hs s) k (.inl (2, (len, .inl (upd (s k) i.toNatClampNeg (vp_nar .char x))))) = q_hs (s_u s k i.toNatClampNeg v) := by
    unfold s_u
    rw [q_hs_up, hl, hv]
    rfl
  rw [e]
  exact K
theorem s_aald {k len b : Nat} {i : Int32} (dc : decode M.2.2.1 pc = .ok (.aaload, 1)) (hl : q_lay k = .inl (5, len, some b)) (hi : vp_in i len) (K : s_W G M d C S P (pc + 1) L (.ref (b + i.toNatClampNeg) :: st) s) : s_W G M d C S P pc L (.int i :: .ref k :: st) s := by
  have hlt : i.toNatClampNeg < len := Nat.not_le.mp fun q => hi (Or.inr q)
  refine r_aald (f := fun j => if j < len then some (b + j) else none) dc (s_lt_i hl) ?_ hi (by show (if _ then _ else _) = _; rw [if_pos hlt]) K
  unfold q_hs
  rw [hl]
  rfl
theorem s_alen {k t len : Nat} {x : Option Nat} {v : Int32} (dc : decode M.2.2.1 pc = .ok (.arraylength, 1)) (hl : q_lay k = .inl (t, len, x)) (ht : t < 6) (hv : Int32.ofNat len = v) (K : s_W G M d C S P (pc + 1) L (.int v :: st) s) : s_W G M d C S P pc L (.ref k :: st) s := by
  obtain ⟨b, t', hb, ht', hbe⟩ : ∃ (b : vp_A) (t' : Nat), q_hs s k = .inl (t', b) ∧ t' < 6 ∧ b.1 = len := by
    unfold q_hs
    rw [hl]
    cases x with
    | none =>
      show ∃ (b : vp_A) (t' : Nat), (if t = 3 then _ else if t = 4 then _ else _) = _ ∧ _
      by_cases e3 : t = 3
      · rw [if_pos e3]; exact ⟨_, _, rfl, by decide, rfl⟩
      · rw [if_neg e3]
        by_cases e4 : t = 4
        · rw [if_pos e4]; exact ⟨_, _, rfl, by decide, rfl⟩
        · rw [if_neg e4]; exact ⟨_, _, rfl, ht, rfl⟩
    | some b => exact ⟨_, _, rfl, ht, rfl⟩
  exact r_alen dc (s_lt_i hl) hb ht' (by rw [hbe]; exact hv) K
/-- System.arraycopy -/
theorem s_copy {idx k0 k1 n0' n1' : Nat} {sp dp m' : Int32} (dc : decode M.2.2.1 pc = .ok (.invokestatic idx, 3)) (hw : Cond.methodLink M.1 idx arraycopyName ∈ q_tw) (hw2 : Cond.native arraycopyName ∈ q_tw) (hw3 : Cond.static arraycopyName ∈ q_tw) (hw4 : Cond.initialized "java/lang/System" ∈ q_tw) (hd : 1 ≤ d) (hr : (st.map fun v => v.category).sum ≤ 40)
    (hl0 : q_lay k0 = .inl (0, n0', none)) (hl1 : q_lay k1 = .inl (0, n1', none)) (h1 : ¬ sp < 0) (h2 : ¬ dp < 0) (h3 : ¬ m' < 0) (h4 : sp.toNatClampNeg + m'.toNatClampNeg ≤ n0') (h5 : dp.toNatClampNeg + m'.toNatClampNeg ≤ n1')
    (K : s_W G M d C S P (pc + 3) L st (va_up s k1 (va_cpy (s k0) (s k1) sp.toNatClampNeg dp.toNatClampNeg m'.toNatClampNeg))) : s_W G M d C S P pc L (.int m' :: .int dp :: .ref k1 :: .int sp :: .ref k0 :: st) s := by
  refine r_copy dc hw hw2 hw3 hw4 hd hr (s_lt_i hl0) (s_hs_i hl0 (by decide)) (s_lt_i hl1) (s_hs_i hl1 (by decide)) h1 h2 h3 h4 h5 ?_
  have e : va_up (q_hs s) k1 (.inl (0, (n1', .inl (va_cpy (s k0) (s k1) sp.toNatClampNeg dp.toNatClampNeg m'.toNatClampNeg)))) = q_hs (va_up s k1 (va_cpy (s k0) (s k1) sp.toNatClampNeg dp.toNatClampNeg m'.toNatClampNeg)) := by
    rw [q_hs_up, hl1]
    rfl
  rw [e]
  exact K
/-- contracts: an int comes back; nothing comes back -/
def c_I (Q : Int32 → s_T → Prop) : q_R → s_T → Prop := fun r s => ∃ x, r = .inl (some (.int x)) ∧ Q x s
def c_V (Q : s_T → Prop) : q_R → s_T → Prop := fun r s => r = .inl none ∧ Q s
theorem s_iret {x : Int32} {ty : FieldType} (dc : decode M.2.2.1 pc = .ok (.ireturn, 1)) (hrt : M.2.2.2.2.1 = some ty) (hnr : narrow ty (.int x) = .int x) (hp : P (.inl (some (.int x))) s) : s_W G M d C S P pc L [.int x] s := r_iret dc hrt hnr (s_end hp)
theorem s_vret (dc : decode M.2.2.1 pc = .ok (.return_, 1)) (hrt : M.2.2.2.2.1 = none) (hp : P (.inl none) s) : s_W G M d C S P pc L [] s := r_vret dc hrt (s_end hp)
variable {stk : List Value}
theorem s_callV (M' : q_M) {d' C' S' : Nat} {P' : q_R → s_T → Prop} (As : List Value) {k ci idx N : Nat} {T : u_T} {fr : List (Option Nat)} (dc : decode M.2.2.1 pc = .ok (.invokevirtual idx, 3)) (hMo : q_Mok M') (hlk : q_lV M.1 idx M') (hnp : q_np M' As.length) (hl : q_lay k = .inr (ci, fr)) (hci : vwCl[ci]? = some (M'.1, T, N)) (hd : d' + 1 ≤ d) (hC : C' ≤ C) (hS2 : S' ≤ S) (hr : (st.map fun v => v.category).sum ≤ 8) (hA : (q_sl (.ref k :: As)).length ≤ M'.2.2.2.1) (hstk : stk = As.reverse ++ .ref k :: st)
    (K1 : s_W G M' d' C' S' P' 0 (q_ent M' (.ref k :: As)) [] s)
    (K2 : ∀ (v : Option Value) (s' : s_T), P' (.inl v) s' → s_W G M d (C - C') (S - S') P (pc + 3) L (v.toList ++ st) s')
    (K3 : ∀ (E : String) (s' : s_T), P' (.inr E) s' → s_X G M d (C - C') (S - S') P pc L s' E) : s_W G M d C S P pc L stk s :=
  r_callV M' As dc hMo hlk hnp (s_lt_o hl (by intro e; subst e; cases hci)) (s_hs_o hl) hci hd hC hS2 hr hA hstk K1 (fun v n' h' hp _ => by obtain ⟨rfl, s', rfl, hp⟩ := hp; exact K2 v s' hp) (fun E n' h' hp _ => by obtain ⟨rfl, s', rfl, hp⟩ := hp; exact K3 E s' hp)
theorem s_callS (M' : q_M) {d' C' S' : Nat} {P' : q_R → s_T → Prop} (As : List Value) {idx : Nat} (dc : decode M.2.2.1 pc = .ok (.invokestatic idx, 3)) (hMo : q_Mok M') (hlk : q_lS M.1 idx M') (hnp : q_np M' As.length) (hd : d' + 1 ≤ d) (hC : C' ≤ C) (hS2 : S' ≤ S) (hr : (st.map fun v => v.category).sum ≤ 8) (hA : (q_sl As).length ≤ M'.2.2.2.1) (hstk : stk = As.reverse ++ st)
    (K1 : s_W G M' d' C' S' P' 0 (q_ent M' As) [] s)
    (K2 : ∀ (v : Option Value) (s' : s_T), P' (.inl v) s' → s_W G M d (C - C') (S - S') P (pc + 3) L (v.toList ++ st) s')
    (K3 : ∀ (E : String) (s' : s_T), P' (.inr E) s' → s_X G M d (C - C') (S - S') P pc L s' E) : s_W G M d C S P pc L stk s :=
  r_callS M' As dc hMo hlk hnp hd hC hS2 hr hA hstk K1 (fun v n' h' hp _ => by obtain ⟨rfl, s', rfl, hp⟩ := hp; exact K2 v s' hp) (fun E n' h' hp _ => by obtain ⟨rfl, s', rfl, hp⟩ := hp; exact K3 E s' hp)
theorem s_callSN (M' : q_M) {d' C' S' : Nat} {P' : q_R → s_T → Prop} (As : List Value) {idx : Nat} (dc : decode M.2.2.1 pc = .ok (.invokestatic idx, 3)) (hMo : q_Mok M') (hlk : q_lSN M.1 idx M') (hnp : q_np M' As.length) (hd : d' + 1 ≤ d) (hC : C' ≤ C) (hS2 : S' ≤ S) (hr : (st.map fun v => v.category).sum ≤ 8) (hA : (q_sl As).length ≤ M'.2.2.2.1) (hstk : stk = As.reverse ++ st)
    (K1 : s_W G M' d' C' S' P' 0 (q_ent M' As) [] s)
    (K2 : ∀ (v : Option Value) (s' : s_T), P' (.inl v) s' → s_W G M d (C - C') (S - S') P (pc + 3) L (v.toList ++ st) s')
    (K3 : ∀ (E : String) (s' : s_T), ¬ P' (.inr E) s') : s_W G M d C S P pc L stk s :=
  r_callSN M' As dc hMo hlk hnp hd hC hS2 hr hA hstk K1 (fun v n' h' hp _ => by obtain ⟨rfl, s', rfl, hp⟩ := hp; exact K2 v s' hp) (fun E n' h' hp => by obtain ⟨-, s', -, hp⟩ := hp; exact K3 E s' hp)
theorem s_throwS {ik is ic : Nat} {cls text : String} (d0 : decode M.2.2.1 pc = .ok (.new ik, 3)) (d3 : decode M.2.2.1 (pc + 3) = .ok (.dup, 1)) (d4 : decode M.2.2.1 (pc + 4) = .ok (.ldc is, 2)) (d6 : decode M.2.2.1 (pc + 6) = .ok (.invokespecial ic, 3)) (d9 : decode M.2.2.1 (pc + 9) = .ok (.athrow, 1)) (ht : q_thr M.1 ik is ic cls text) (hh : M.2.2.2.2.2 = []) (hd : 6 ≤ d) (hC : 1 ≤ C) (hS6 : 6 ≤ S) (hr : (st.map fun v => v.category).sum ≤ 40) (hp : P (.inr cls) s) : s_W G M d C S P pc L st s := r_throwS d0 d3 d4 d6 d9 ht hh hd hC hS6 hr (s_end hp)
theorem s_throwSW {ik is ic : Nat} {cls text : String} (d0 : decode M.2.2.1 pc = .ok (.new ik, 3)) (d3 : decode M.2.2.1 (pc + 3) = .ok (.dup, 1)) (d4 : decode M.2.2.1 (pc + 4) = .ok (.ldc_w is, 3)) (d7 : decode M.2.2.1 (pc + 7) = .ok (.invokespecial ic, 3)) (d10 : decode M.2.2.1 (pc + 10) = .ok (.athrow, 1)) (ht : q_thr M.1 ik is ic cls text) (hh : M.2.2.2.2.2 = []) (hd : 6 ≤ d) (hC : 1 ≤ C) (hS6 : 6 ≤ S) (hr : (st.map fun v => v.category).sum ≤ 40) (hp : P (.inr cls) s) : s_W G M d C S P pc L st s := r_throwSW d0 d3 d4 d7 d10 ht hh hd hC hS6 hr (s_end hp)
end SR1
def isX7 (o : Nat) : Prop := o = 1 ∨ o = 42 ∨ o = 83
def frX7 (o : Nat) : List (Option Nat) := [none, none, some (o + 1), some (o + 7), some (o + 8), some (o + 14), some (o + 15), some (o + 16), some (o + 17), some (o + 18), some (o + 19), some (o + 23), some (o + 24), some (o + 29), some (o + 34)]
def isX5 (o : Nat) : Prop := o = 35 ∨ o = 76 ∨ o = 117 ∨ o = 174
def frX5 (o : Nat) : List (Option Nat) := [some (o + 1), some (o + 2)]
def isX10 (o : Nat) : Prop := o = 124 ∨ o = 132 ∨ o = 152 ∨ o = 162
def frX10 (o : Nat) : List (Option Nat) := [some (o + 1), some (o + 2), some (o + 3), some (o + 4), some (o + 5), none, none, some (o + 6), some (o + 7), none, none]
def isX2 (o : Nat) : Prop := o = 140 ∨ o = 170
def frX2 (o : Nat) : List (Option Nat) := [none, some (o + 1), none, some (o + 2), some (o + 3)]
def isX3 (o : Nat) : Prop := o = 144
def frX3 (o : Nat) : List (Option Nat) := [some (o + 1), some (o + 2), none, none]
def isX6 (o : Nat) : Prop := o = 147
def frX6 (o : Nat) : List (Option Nat) := [none, some (o + 1), some (o + 2)]
def isX0 (o : Nat) : Prop := o = 150
def frX0 (o : Nat) : List (Option Nat) := [none, some (o + 1), some (o + 2), some (o + 10)]
def isX8 (o : Nat) : Prop := o = 161
def frX8 (o : Nat) : List (Option Nat) := [none, some (o + 1), some (o + 9), some (o + 13), none, some (o + 20), none, none, none]
def isX1 (o : Nat) : Prop := o = 202
def frX1 (o : Nat) : List (Option Nat) := [none, some (o + 1), some (o + 2), some (o + 3)]
def isX9 (o : Nat) : Prop := o = 206
def frX9 (o : Nat) : List (Option Nat) := [none, some (o + 1), none, some (o + 2), some (o + 3), none, none, none]
def isX4 (o : Nat) : Prop := o = 210
def frX4 (o : Nat) : List (Option Nat) := [none, some (o + 1)]
def isX11 (o : Nat) : Prop := o = 0
def frX11 (o : Nat) : List (Option Nat) := [some (o + 1), some (o + 42), some (o + 83), some (o + 124), some (o + 132), some (o + 140), some (o + 144), some (o + 147), some (o + 150), some (o + 161), some (o + 202), some (o + 206), some (o + 210), none]
def isX12 (o : Nat) : Prop := o = 212
def frX12 (o : Nat) : List (Option Nat) := [some (o + 1), some (o + 2), none, none, some (o + 3), none, some (o + 4), none, some (o + 5), none, none, some (o + 6), some (o + 7), some (o + 8), none, none, some (o + 9), none, some (o + 10), some (o + 11), some (o + 12), none, some (o + 13), some (o + 14), some (o + 15), some (o + 16), some (o + 17), some (o + 18), some (o + 19), some (o + 20), none, none, none, none, none, none, some (o + 21)]
theorem layX7 {o : Nat} (h : isX7 o) : q_lay o = .inr (7, frX7 o) := by
  rcases h with rfl | rfl | rfl <;> rfl
theorem X7_jobData {o : Nat} (h : isX7 o) : q_lay (o + 1) = .inl (5, 5, some (o + 2)) := by
  rcases h with rfl | rfl | rfl <;> rfl
theorem X7_jobData_r1 : ∀ j, j < 5 → q_lay (1 + 2 + j) = .inl (0, 3, none) := by decide +kernel
theorem X7_jobData_r42 : ∀ j, j < 5 → q_lay (42 + 2 + j) = .inl (0, 3, none) := by decide +kernel
theorem X7_jobData_r83 : ∀ j, j < 5 → q_lay (83 + 2 + j) = .inl (0, 3, none) := by decide +kernel
theorem X7_jobData_row {o : Nat} (h : isX7 o) {j : Nat} (hj : j < 5) : q_lay (o + 2 + j) = .inl (0, 3, none) := by
  rcases h with rfl | rfl | rfl <;> first | exact X7_jobData_r1 j hj | exact X7_jobData_r42 j hj | exact X7_jobData_r83 j hj
theorem X7_stepCounts {o : Nat} (h : isX7 o) : q_lay (o + 7) = .inl (0, 5, none) := by
  rcases h with rfl | rfl | rfl <;> rfl
theorem X7_routes {o : Nat} (h : isX7 o) : q_lay (o + 8) = .inl (5, 5, some (o + 9)) := by
  rcases h with rfl | rfl | rfl <;> rfl
theorem X7_routes_r1 : ∀ j, j < 5 → q_lay (1 + 9 + j) = .inl (0, 4, none) := by decide +kernel
theorem X7_routes_r42 : ∀ j, j < 5 → q_lay (42 + 9 + j) = .inl (0, 4, none) := by decide +kernel
theorem X7_routes_r83 : ∀ j, j < 5 → q_lay (83 + 9 + j) = .inl (0, 4, none) := by decide +kernel
theorem X7_routes_row {o : Nat} (h : isX7 o) {j : Nat} (hj : j < 5) : q_lay (o + 9 + j) = .inl (0, 4, none) := by
  rcases h with rfl | rfl | rfl <;> first | exact X7_routes_r1 j hj | exact X7_routes_r42 j hj | exact X7_routes_r83 j hj
theorem X7_jobOf {o : Nat} (h : isX7 o) : q_lay (o + 14) = .inl (0, 20, none) := by
  rcases h with rfl | rfl | rfl <;> rfl
theorem X7_machineOf {o : Nat} (h : isX7 o) : q_lay (o + 15) = .inl (0, 20, none) := by
  rcases h with rfl | rfl | rfl <;> rfl
theorem X7_durations {o : Nat} (h : isX7 o) : q_lay (o + 16) = .inl (0, 20, none) := by
  rcases h with rfl | rfl | rfl <;> rfl
theorem X7_families {o : Nat} (h : isX7 o) : q_lay (o + 17) = .inl (0, 20, none) := by
  rcases h with rfl | rfl | rfl <;> rfl
theorem X7_stepOf {o : Nat} (h : isX7 o) : q_lay (o + 18) = .inl (0, 20, none) := by
  rcases h with rfl | rfl | rfl <;> rfl
theorem X7_setups {o : Nat} (h : isX7 o) : q_lay (o + 19) = .inl (5, 3, some (o + 20)) := by
  rcases h with rfl | rfl | rfl <;> rfl
theorem X7_setups_r1 : ∀ j, j < 3 → q_lay (1 + 20 + j) = .inl (0, 3, none) := by decide +kernel
theorem X7_setups_r42 : ∀ j, j < 3 → q_lay (42 + 20 + j) = .inl (0, 3, none) := by decide +kernel
theorem X7_setups_r83 : ∀ j, j < 3 → q_lay (83 + 20 + j) = .inl (0, 3, none) := by decide +kernel
theorem X7_setups_row {o : Nat} (h : isX7 o) {j : Nat} (hj : j < 3) : q_lay (o + 20 + j) = .inl (0, 3, none) := by
  rcases h with rfl | rfl | rfl <;> first | exact X7_setups_r1 j hj | exact X7_setups_r42 j hj | exact X7_setups_r83 j hj
theorem X7_breakdowns {o : Nat} (h : isX7 o) : q_lay (o + 23) = .inl (0, 4, none) := by
  rcases h with rfl | rfl | rfl <;> rfl
theorem X7_breakFirst {o : Nat} (h : isX7 o) : q_lay (o + 24) = .inl (5, 4, some (o + 25)) := by
  rcases h with rfl | rfl | rfl <;> rfl
theorem X7_breakFirst_r1 : ∀ j, j < 4 → q_lay (1 + 25 + j) = .inl (0, 3, none) := by decide +kernel
theorem X7_breakFirst_r42 : ∀ j, j < 4 → q_lay (42 + 25 + j) = .inl (0, 3, none) := by decide +kernel
theorem X7_breakFirst_r83 : ∀ j, j < 4 → q_lay (83 + 25 + j) = .inl (0, 3, none) := by decide +kernel
theorem X7_breakFirst_row {o : Nat} (h : isX7 o) {j : Nat} (hj : j < 4) : q_lay (o + 25 + j) = .inl (0, 3, none) := by
  rcases h with rfl | rfl | rfl <;> first | exact X7_breakFirst_r1 j hj | exact X7_breakFirst_r42 j hj | exact X7_breakFirst_r83 j hj
theorem X7_breakBehind {o : Nat} (h : isX7 o) : q_lay (o + 29) = .inl (5, 4, some (o + 30)) := by
  rcases h with rfl | rfl | rfl <;> rfl
theorem X7_breakBehind_r1 : ∀ j, j < 4 → q_lay (1 + 30 + j) = .inl (0, 3, none) := by decide +kernel
theorem X7_breakBehind_r42 : ∀ j, j < 4 → q_lay (42 + 30 + j) = .inl (0, 3, none) := by decide +kernel
theorem X7_breakBehind_r83 : ∀ j, j < 4 → q_lay (83 + 30 + j) = .inl (0, 3, none) := by decide +kernel
theorem X7_breakBehind_row {o : Nat} (h : isX7 o) {j : Nat} (hj : j < 4) : q_lay (o + 30 + j) = .inl (0, 3, none) := by
  rcases h with rfl | rfl | rfl <;> first | exact X7_breakBehind_r1 j hj | exact X7_breakBehind_r42 j hj | exact X7_breakBehind_r83 j hj
theorem X7_orders {o : Nat} (h : isX7 o) : isX5 (o + 34) := by
  rcases h with rfl | rfl | rfl <;> first | exact rfl | exact Or.inl rfl | exact Or.inr rfl | exact Or.inr (Or.inl rfl) | exact Or.inr (Or.inr rfl) | exact Or.inr (Or.inr (Or.inl rfl)) | exact Or.inr (Or.inr (Or.inr rfl))
theorem layX5 {o : Nat} (h : isX5 o) : q_lay o = .inr (5, frX5 o) := by
  rcases h with rfl | rfl | rfl | rfl <;> rfl
theorem X5_sizes {o : Nat} (h : isX5 o) : q_lay (o + 1) = .inl (0, 4, none) := by
  rcases h with rfl | rfl | rfl | rfl <;> rfl
theorem X5_rows {o : Nat} (h : isX5 o) : q_lay (o + 2) = .inl (5, 4, some (o + 3)) := by
  rcases h with rfl | rfl | rfl | rfl <;> rfl
theorem X5_rows_r35 : ∀ j, j < 4 → q_lay (35 + 3 + j) = .inl (0, 5, none) := by decide +kernel
theorem X5_rows_r76 : ∀ j, j < 4 → q_lay (76 + 3 + j) = .inl (0, 5, none) := by decide +kernel
theorem X5_rows_r117 : ∀ j, j < 4 → q_lay (117 + 3 + j) = .inl (0, 5, none) := by decide +kernel
theorem X5_rows_r174 : ∀ j, j < 4 → q_lay (174 + 3 + j) = .inl (0, 5, none) := by decide +kernel
theorem X5_rows_row {o : Nat} (h : isX5 o) {j : Nat} (hj : j < 4) : q_lay (o + 3 + j) = .inl (0, 5, none) := by
  rcases h with rfl | rfl | rfl | rfl <;> first | exact X5_rows_r35 j hj | exact X5_rows_r76 j hj | exact X5_rows_r117 j hj | exact X5_rows_r174 j hj
theorem layX10 {o : Nat} (h : isX10 o) : q_lay o = .inr (10, frX10 o) := by
  rcases h with rfl | rfl | rfl | rfl <;> rfl
theorem X10_ready {o : Nat} (h : isX10 o) : q_lay (o + 1) = .inl (0, 20, none) := by
  rcases h with rfl | rfl | rfl | rfl <;> rfl
theorem X10_start {o : Nat} (h : isX10 o) : q_lay (o + 2) = .inl (0, 20, none) := by
  rcases h with rfl | rfl | rfl | rfl <;> rfl
theorem X10_end {o : Nat} (h : isX10 o) : q_lay (o + 3) = .inl (0, 20, none) := by
  rcases h with rfl | rfl | rfl | rfl <;> rfl
theorem X10_machineBefore {o : Nat} (h : isX10 o) : q_lay (o + 4) = .inl (0, 20, none) := by
  rcases h with rfl | rfl | rfl | rfl <;> rfl
theorem X10_open {o : Nat} (h : isX10 o) : q_lay (o + 5) = .inl (1, 4, none) := by
  rcases h with rfl | rfl | rfl | rfl <;> rfl
theorem X10_stepsDone {o : Nat} (h : isX10 o) : q_lay (o + 6) = .inl (0, 5, none) := by
  rcases h with rfl | rfl | rfl | rfl <;> rfl
theorem X10_rowDone {o : Nat} (h : isX10 o) : q_lay (o + 7) = .inl (0, 4, none) := by
  rcases h with rfl | rfl | rfl | rfl <;> rfl
theorem layX2 {o : Nat} (h : isX2 o) : q_lay o = .inr (2, frX2 o) := by
  rcases h with rfl | rfl <;> rfl
theorem X2_operations {o : Nat} (h : isX2 o) : q_lay (o + 1) = .inl (0, 20, none) := by
  rcases h with rfl | rfl <;> rfl
theorem X2_blockSizes {o : Nat} (h : isX2 o) : q_lay (o + 2) = .inl (0, 20, none) := by
  rcases h with rfl | rfl <;> rfl
theorem X2_indices {o : Nat} (h : isX2 o) : q_lay (o + 3) = .inl (0, 20, none) := by
  rcases h with rfl | rfl <;> rfl
theorem layX3 {o : Nat} (h : isX3 o) : q_lay o = .inr (3, frX3 o) := by
  have h : o = 144 := h
  subst h
  rfl
theorem X3_end {o : Nat} (h : isX3 o) : q_lay (o + 1) = .inl (0, 20, none) := by
  have h : o = 144 := h
  subst h
  rfl
theorem X3_stepsDone {o : Nat} (h : isX3 o) : q_lay (o + 2) = .inl (0, 5, none) := by
  have h : o = 144 := h
  subst h
  rfl
theorem layX6 {o : Nat} (h : isX6 o) : q_lay o = .inr (6, frX6 o) := by
  have h : o = 147 := h
  subst h
  rfl
theorem X6_leastRow {o : Nat} (h : isX6 o) : q_lay (o + 1) = .inl (0, 5, none) := by
  have h : o = 147 := h
  subst h
  rfl
theorem X6_formerRow {o : Nat} (h : isX6 o) : q_lay (o + 2) = .inl (0, 5, none) := by
  have h : o = 147 := h
  subst h
  rfl
theorem layX0 {o : Nat} (h : isX0 o) : q_lay o = .inr (0, frX0 o) := by
  have h : o = 150 := h
  subst h
  rfl
theorem X0_sequence {o : Nat} (h : isX0 o) : q_lay (o + 1) = .inl (0, 4, none) := by
  have h : o = 150 := h
  subst h
  rfl
theorem X0_times {o : Nat} (h : isX0 o) : isX10 (o + 2) := by
  have h : o = 150 := h
  subst h
  first | exact rfl | exact Or.inl rfl | exact Or.inr rfl | exact Or.inr (Or.inl rfl) | exact Or.inr (Or.inr rfl) | exact Or.inr (Or.inr (Or.inl rfl)) | exact Or.inr (Or.inr (Or.inr rfl))
theorem X0_chosenRow {o : Nat} (h : isX0 o) : q_lay (o + 10) = .inl (0, 5, none) := by
  have h : o = 150 := h
  subst h
  rfl
theorem layX8 {o : Nat} (h : isX8 o) : q_lay o = .inr (8, frX8 o) := by
  have h : o = 161 := h
  subst h
  rfl
theorem X8_times {o : Nat} (h : isX8 o) : isX10 (o + 1) := by
  have h : o = 161 := h
  subst h
  first | exact rfl | exact Or.inl rfl | exact Or.inr rfl | exact Or.inr (Or.inl rfl) | exact Or.inr (Or.inr rfl) | exact Or.inr (Or.inr (Or.inl rfl)) | exact Or.inr (Or.inr (Or.inr rfl))
theorem X8_critical {o : Nat} (h : isX8 o) : isX2 (o + 9) := by
  have h : o = 161 := h
  subst h
  first | exact rfl | exact Or.inl rfl | exact Or.inr rfl | exact Or.inr (Or.inl rfl) | exact Or.inr (Or.inr rfl) | exact Or.inr (Or.inr (Or.inl rfl)) | exact Or.inr (Or.inr (Or.inr rfl))
theorem X8_leastOrders {o : Nat} (h : isX8 o) : isX5 (o + 13) := by
  have h : o = 161 := h
  subst h
  first | exact rfl | exact Or.inl rfl | exact Or.inr rfl | exact Or.inr (Or.inl rfl) | exact Or.inr (Or.inr rfl) | exact Or.inr (Or.inr (Or.inl rfl)) | exact Or.inr (Or.inr (Or.inr rfl))
theorem X8_stepOfSwap {o : Nat} (h : isX8 o) : q_lay (o + 20) = .inl (5, 20, some (o + 21)) := by
  have h : o = 161 := h
  subst h
  rfl
theorem X8_stepOfSwap_r161 : ∀ j, j < 20 → q_lay (161 + 21 + j) = .inl (0, 20, none) := by decide +kernel
theorem X8_stepOfSwap_row {o : Nat} (h : isX8 o) {j : Nat} (hj : j < 20) : q_lay (o + 21 + j) = .inl (0, 20, none) := by
  have h : o = 161 := h
  subst h
  first | exact X8_stepOfSwap_r161 j hj
theorem layX1 {o : Nat} (h : isX1 o) : q_lay o = .inr (1, frX1 o) := by
  have h : o = 202 := h
  subst h
  rfl
theorem X1_heads {o : Nat} (h : isX1 o) : q_lay (o + 1) = .inl (0, 5, none) := by
  have h : o = 202 := h
  subst h
  rfl
theorem X1_tails {o : Nat} (h : isX1 o) : q_lay (o + 2) = .inl (0, 5, none) := by
  have h : o = 202 := h
  subst h
  rfl
theorem X1_rests {o : Nat} (h : isX1 o) : q_lay (o + 3) = .inl (0, 5, none) := by
  have h : o = 202 := h
  subst h
  rfl
theorem layX9 {o : Nat} (h : isX9 o) : q_lay o = .inr (9, frX9 o) := by
  have h : o = 206 := h
  subst h
  rfl
theorem X9_text {o : Nat} (h : isX9 o) : q_lay (o + 1) = .inl (2, 80, none) := by
  have h : o = 206 := h
  subst h
  rfl
theorem X9_values {o : Nat} (h : isX9 o) : q_lay (o + 2) = .inl (0, 80, none) := by
  have h : o = 206 := h
  subst h
  rfl
theorem X9_kinds {o : Nat} (h : isX9 o) : q_lay (o + 3) = .inl (0, 80, none) := by
  have h : o = 206 := h
  subst h
  rfl
theorem layX4 {o : Nat} (h : isX4 o) : q_lay o = .inr (4, frX4 o) := by
  have h : o = 210 := h
  subst h
  rfl
theorem X4_codes {o : Nat} (h : isX4 o) : q_lay (o + 1) = .inl (0, 4, none) := by
  have h : o = 210 := h
  subst h
  rfl
theorem layX11 {o : Nat} (h : isX11 o) : q_lay o = .inr (11, frX11 o) := by
  have h : o = 0 := h
  subst h
  rfl
theorem X11_shop {o : Nat} (h : isX11 o) : isX7 (o + 1) := by
  have h : o = 0 := h
  subst h
  first | exact rfl | exact Or.inl rfl | exact Or.inr rfl | exact Or.inr (Or.inl rfl) | exact Or.inr (Or.inr rfl) | exact Or.inr (Or.inr (Or.inl rfl)) | exact Or.inr (Or.inr (Or.inr rfl))
theorem X11_snapshot {o : Nat} (h : isX11 o) : isX7 (o + 42) := by
  have h : o = 0 := h
  subst h
  first | exact rfl | exact Or.inl rfl | exact Or.inr rfl | exact Or.inr (Or.inl rfl) | exact Or.inr (Or.inr rfl) | exact Or.inr (Or.inr (Or.inl rfl)) | exact Or.inr (Or.inr (Or.inr rfl))
theorem X11_draft {o : Nat} (h : isX11 o) : isX7 (o + 83) := by
  have h : o = 0 := h
  subst h
  first | exact rfl | exact Or.inl rfl | exact Or.inr rfl | exact Or.inr (Or.inl rfl) | exact Or.inr (Or.inr rfl) | exact Or.inr (Or.inr (Or.inl rfl)) | exact Or.inr (Or.inr (Or.inr rfl))
theorem X11_present {o : Nat} (h : isX11 o) : isX10 (o + 124) := by
  have h : o = 0 := h
  subst h
  first | exact rfl | exact Or.inl rfl | exact Or.inr rfl | exact Or.inr (Or.inl rfl) | exact Or.inr (Or.inr rfl) | exact Or.inr (Or.inr (Or.inl rfl)) | exact Or.inr (Or.inr (Or.inr rfl))
theorem X11_trial {o : Nat} (h : isX11 o) : isX10 (o + 132) := by
  have h : o = 0 := h
  subst h
  first | exact rfl | exact Or.inl rfl | exact Or.inr rfl | exact Or.inr (Or.inl rfl) | exact Or.inr (Or.inr rfl) | exact Or.inr (Or.inr (Or.inl rfl)) | exact Or.inr (Or.inr (Or.inr rfl))
theorem X11_critical {o : Nat} (h : isX11 o) : isX2 (o + 140) := by
  have h : o = 0 := h
  subst h
  first | exact rfl | exact Or.inl rfl | exact Or.inr rfl | exact Or.inr (Or.inl rfl) | exact Or.inr (Or.inr rfl) | exact Or.inr (Or.inr (Or.inl rfl)) | exact Or.inr (Or.inr (Or.inr rfl))
theorem X11_dispatcher {o : Nat} (h : isX11 o) : isX3 (o + 144) := by
  have h : o = 0 := h
  subst h
  first | exact rfl | exact Or.inl rfl | exact Or.inr rfl | exact Or.inr (Or.inl rfl) | exact Or.inr (Or.inr rfl) | exact Or.inr (Or.inr (Or.inl rfl)) | exact Or.inr (Or.inr (Or.inr rfl))
theorem X11_rowSearch {o : Nat} (h : isX11 o) : isX6 (o + 147) := by
  have h : o = 0 := h
  subst h
  first | exact rfl | exact Or.inl rfl | exact Or.inr rfl | exact Or.inr (Or.inl rfl) | exact Or.inr (Or.inr rfl) | exact Or.inr (Or.inr (Or.inl rfl)) | exact Or.inr (Or.inr (Or.inr rfl))
theorem X11_procedure {o : Nat} (h : isX11 o) : isX0 (o + 150) := by
  have h : o = 0 := h
  subst h
  first | exact rfl | exact Or.inl rfl | exact Or.inr rfl | exact Or.inr (Or.inl rfl) | exact Or.inr (Or.inr rfl) | exact Or.inr (Or.inr (Or.inl rfl)) | exact Or.inr (Or.inr (Or.inr rfl))
theorem X11_tabuSearch {o : Nat} (h : isX11 o) : isX8 (o + 161) := by
  have h : o = 0 := h
  subst h
  first | exact rfl | exact Or.inl rfl | exact Or.inr rfl | exact Or.inr (Or.inl rfl) | exact Or.inr (Or.inr rfl) | exact Or.inr (Or.inr (Or.inl rfl)) | exact Or.inr (Or.inr (Or.inr rfl))
theorem X11_bounds {o : Nat} (h : isX11 o) : isX1 (o + 202) := by
  have h : o = 0 := h
  subst h
  first | exact rfl | exact Or.inl rfl | exact Or.inr rfl | exact Or.inr (Or.inl rfl) | exact Or.inr (Or.inr rfl) | exact Or.inr (Or.inr (Or.inl rfl)) | exact Or.inr (Or.inr (Or.inr rfl))
theorem X11_reader {o : Nat} (h : isX11 o) : isX9 (o + 206) := by
  have h : o = 0 := h
  subst h
  first | exact rfl | exact Or.inl rfl | exact Or.inr rfl | exact Or.inr (Or.inl rfl) | exact Or.inr (Or.inr rfl) | exact Or.inr (Or.inr (Or.inl rfl)) | exact Or.inr (Or.inr (Or.inr rfl))
theorem X11_latest {o : Nat} (h : isX11 o) : isX4 (o + 210) := by
  have h : o = 0 := h
  subst h
  first | exact rfl | exact Or.inl rfl | exact Or.inr rfl | exact Or.inr (Or.inl rfl) | exact Or.inr (Or.inr rfl) | exact Or.inr (Or.inr (Or.inl rfl)) | exact Or.inr (Or.inr (Or.inr rfl))
theorem layX12 {o : Nat} (h : isX12 o) : q_lay o = .inr (12, frX12 o) := by
  have h : o = 212 := h
  subst h
  rfl
theorem X12_s {o : Nat} (h : isX12 o) : q_lay (o + 1) = .inl (0, 203, none) := by
  have h : o = 212 := h
  subst h
  rfl
theorem X12_saved {o : Nat} (h : isX12 o) : q_lay (o + 2) = .inl (0, 203, none) := by
  have h : o = 212 := h
  subst h
  rfl
theorem X12_text {o : Nat} (h : isX12 o) : q_lay (o + 3) = .inl (2, 80, none) := by
  have h : o = 212 := h
  subst h
  rfl
theorem X12_failures {o : Nat} (h : isX12 o) : q_lay (o + 4) = .inl (0, 5, none) := by
  have h : o = 212 := h
  subst h
  rfl
theorem X12_closedOrder {o : Nat} (h : isX12 o) : q_lay (o + 5) = .inl (0, 4, none) := by
  have h : o = 212 := h
  subst h
  rfl
theorem X12_ready {o : Nat} (h : isX12 o) : q_lay (o + 6) = .inl (0, 20, none) := by
  have h : o = 212 := h
  subst h
  rfl
theorem X12_start {o : Nat} (h : isX12 o) : q_lay (o + 7) = .inl (0, 20, none) := by
  have h : o = 212 := h
  subst h
  rfl
theorem X12_isOpen {o : Nat} (h : isX12 o) : q_lay (o + 8) = .inl (1, 4, none) := by
  have h : o = 212 := h
  subst h
  rfl
theorem X12_path {o : Nat} (h : isX12 o) : q_lay (o + 9) = .inl (0, 20, none) := by
  have h : o = 212 := h
  subst h
  rfl
theorem X12_given {o : Nat} (h : isX12 o) : q_lay (o + 10) = .inl (0, 5, none) := by
  have h : o = 212 := h
  subst h
  rfl
theorem X12_fixed {o : Nat} (h : isX12 o) : q_lay (o + 11) = .inl (0, 20, none) := by
  have h : o = 212 := h
  subst h
  rfl
theorem X12_bestOrder {o : Nat} (h : isX12 o) : q_lay (o + 12) = .inl (0, 5, none) := by
  have h : o = 212 := h
  subst h
  rfl
theorem X12_isUsed {o : Nat} (h : isX12 o) : q_lay (o + 13) = .inl (1, 20, none) := by
  have h : o = 212 := h
  subst h
  rfl
theorem X12_own {o : Nat} (h : isX12 o) : q_lay (o + 14) = .inl (0, 5, none) := by
  have h : o = 212 := h
  subst h
  rfl
theorem X12_madeAt {o : Nat} (h : isX12 o) : q_lay (o + 15) = .inl (0, 400, none) := by
  have h : o = 212 := h
  subst h
  rfl
theorem X12_bestState {o : Nat} (h : isX12 o) : q_lay (o + 16) = .inl (0, 20, none) := by
  have h : o = 212 := h
  subst h
  rfl
theorem X12_isSwap {o : Nat} (h : isX12 o) : q_lay (o + 17) = .inl (1, 20, none) := by
  have h : o = 212 := h
  subst h
  rfl
theorem X12_heads {o : Nat} (h : isX12 o) : q_lay (o + 18) = .inl (0, 20, none) := by
  have h : o = 212 := h
  subst h
  rfl
theorem X12_tails {o : Nat} (h : isX12 o) : q_lay (o + 19) = .inl (0, 20, none) := by
  have h : o = 212 := h
  subst h
  rfl
theorem X12_lefts {o : Nat} (h : isX12 o) : q_lay (o + 20) = .inl (0, 20, none) := by
  have h : o = 212 := h
  subst h
  rfl
theorem X12_beforeText {o : Nat} (h : isX12 o) : q_lay (o + 21) = .inl (0, 203, none) := by
  have h : o = 212 := h
  subst h
  rfl
theorem isX7_1 : isX7 1 := Or.inl rfl
theorem isX7_42 : isX7 42 := Or.inr (Or.inl rfl)
theorem isX7_83 : isX7 83 := Or.inr (Or.inr (rfl))
theorem isX5_35 : isX5 35 := Or.inl rfl
theorem isX5_76 : isX5 76 := Or.inr (Or.inl rfl)
theorem isX5_117 : isX5 117 := Or.inr (Or.inr (Or.inl rfl))
theorem isX5_174 : isX5 174 := Or.inr (Or.inr (Or.inr (rfl)))
theorem isX10_124 : isX10 124 := Or.inl rfl
theorem isX10_132 : isX10 132 := Or.inr (Or.inl rfl)
theorem isX10_152 : isX10 152 := Or.inr (Or.inr (Or.inl rfl))
theorem isX10_162 : isX10 162 := Or.inr (Or.inr (Or.inr (rfl)))
theorem isX2_140 : isX2 140 := Or.inl rfl
theorem isX2_170 : isX2 170 := Or.inr (rfl)
theorem lysX3 : q_lay 144 = .inr (3, [some 145, some 146, none, none]) := rfl
theorem lysX6 : q_lay 147 = .inr (6, [none, some 148, some 149]) := rfl
theorem lysX0 : q_lay 150 = .inr (0, [none, some 151, some 152, some 160]) := rfl
theorem lysX8 : q_lay 161 = .inr (8, [none, some 162, some 170, some 174, none, some 181, none, none, none]) := rfl
theorem lysX1 : q_lay 202 = .inr (1, [none, some 203, some 204, some 205]) := rfl
theorem lysX9 : q_lay 206 = .inr (9, [none, some 207, none, some 208, some 209, none, none, none]) := rfl
theorem lysX4 : q_lay 210 = .inr (4, [none, some 211]) := rfl
theorem lysX11 : q_lay 0 = .inr (11, [some 1, some 42, some 83, some 124, some 132, some 140, some 144, some 147, some 150, some 161, some 202, some 206, some 210, none]) := rfl
theorem lysX12 : q_lay 212 = .inr (12, [some 213, some 214, none, none, some 215, none, some 216, none, some 217, none, none, some 218, some 219, some 220, none, none, some 221, none, some 222, some 223, some 224, none, some 225, some 226, some 227, some 228, some 229, some 230, some 231, some 232, none, none, none, none, none, none, some 233]) := rfl
