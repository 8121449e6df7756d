/-! ===== the shop as numbers: X k is what the reference's row holds at k ===== -/
abbrev x_T : Type := Nat → Nat
abbrev xJ (X : x_T) : Nat := X 0
abbrev xN (X : x_T) : Nat := X 1
abbrev xrel (X : x_T) (j : Nat) : Nat := X (2 + j)
abbrev xdue (X : x_T) (j : Nat) : Nat := X (7 + j)
abbrev xwt (X : x_T) (j : Nat) : Nat := X (12 + j)
abbrev xlen (X : x_T) (j : Nat) : Nat := X (17 + j)
abbrev xrt (X : x_T) (j i : Nat) : Nat := X (22 + 4 * j + i)
abbrev xjob (X : x_T) (o : Nat) : Nat := X (42 + o)
abbrev xmc (X : x_T) (o : Nat) : Nat := X (62 + o)
abbrev xdu (X : x_T) (o : Nat) : Nat := X (82 + o)
abbrev xfa (X : x_T) (o : Nat) : Nat := X (102 + o)
abbrev xst (X : x_T) (o : Nat) : Nat := X (122 + o)
abbrev xsu (X : x_T) (f g : Nat) : Nat := X (142 + 3 * f + g)
abbrev xbn (X : x_T) (m : Nat) : Nat := X (151 + m)
abbrev xbf (X : x_T) (m i : Nat) : Nat := X (155 + 3 * m + i)
abbrev xbl (X : x_T) (m i : Nat) : Nat := X (167 + 3 * m + i)
abbrev xon (X : x_T) (m : Nat) : Nat := X (179 + m)
abbrev xord (X : x_T) (m p : Nat) : Nat := X (183 + 5 * m + p)
/-- what always holds of a shop -/
def x_wf (X : x_T) : Prop :=
  xJ X ≤ 5 ∧ xN X ≤ 20 ∧ (∀ j, j < xJ X → xrel X j ≤ 99 ∧ xdue X j ≤ 200 ∧ xwt X j ≤ 9 ∧ xlen X j ≤ 4) ∧
  (∀ j i, j < xJ X → i < xlen X j → xrt X j i < xN X ∧ xjob X (xrt X j i) = j ∧ xst X (xrt X j i) = i) ∧
  (∀ o, o < xN X → xjob X o < xJ X ∧ xst X o < xlen X (xjob X o) ∧ xrt X (xjob X o) (xst X o) = o ∧ xmc X o < 4 ∧ 1 ≤ xdu X o ∧ xdu X o ≤ 30 ∧ xfa X o < 3) ∧
  (∀ o o', o < xN X → o' < xN X → xjob X o = xjob X o' → xmc X o = xmc X o' → o = o') ∧
  (∀ f g, f < 3 → g < 3 → xsu X f g ≤ 9) ∧
  (∀ m, m < 4 → xbn X m ≤ 3 ∧ ∀ i, i < xbn X m → xbf X m i ≤ 400 ∧ 1 ≤ xbl X m i ∧ xbl X m i ≤ 60) ∧
  (∀ m, m < 4 → xon X m ≤ 5 ∧ ∀ p, p < xon X m → xord X m p < xN X ∧ xmc X (xord X m p) = m ∧ ∀ p', p' < xon X m → xord X m p = xord X m p' → p = p') ∧
  (∀ o, o < xN X → ∃ p, p < xon X (xmc X o) ∧ xord X (xmc X o) p = o)
/-- the reference's row holds the shop -/
def m_R (X : x_T) (s : s_T) : Prop := ∀ k, k < 203 → s 213 k = nI (X k)
/-- nothing has changed but the cells from lo on, before hi -/
def s_fr (lo hi : Nat) (s s' : s_T) : Prop := ∀ k, k < lo ∨ hi ≤ k → s' k = s k
theorem s_fr_rf {lo hi : Nat} {s : s_T} : s_fr lo hi s s := fun _ _ => rfl
theorem s_fr_tr {lo hi : Nat} {s s1 s2 : s_T} (h1 : s_fr lo hi s s1) (h2 : s_fr lo hi s1 s2) : s_fr lo hi s s2 := fun k hk => (h2 k hk).trans (h1 k hk)
theorem s_fr_w {lo hi lo' hi' : Nat} {s s1 : s_T} (h1 : s_fr lo hi s s1) (h2 : lo' ≤ lo) (h3 : hi ≤ hi') : s_fr lo' hi' s s1 := fun k hk => h1 k (by omega)
theorem s_fr_u {lo hi k j : Nat} {s s1 : s_T} {v : Int32} (h1 : s_fr lo hi s s1) (h2 : lo ≤ k) (h3 : k < hi) : s_fr lo hi s (s_u s1 k j v) := fun q hq => by rw [s_u_row (by omega)]; exact h1 q hq
theorem m_R_fr {X : x_T} {lo hi : Nat} {s s' : s_T} (h : m_R X s) (hf : s_fr lo hi s s') (hb : 213 < lo ∨ hi ≤ 213) : m_R X s' := fun k hk => by rw [hf 213 hb]; exact h k hk
theorem m_R_set {X : x_T} {s : s_T} {k v : Nat} (h : m_R X s) : m_R (va_up X k v) (s_u s 213 k (nI v)) := fun j hj => by
  by_cases e : j = k
  · subst e
    rw [s_u_eq]
    simp [va_up]
  · rw [s_u_ne (Or.inr e), h j hj]
    simp [va_up, e]
theorem va_up_s {α : Type} {f : Nat → α} {k : Nat} {v : α} : va_up f k v k = v := by simp [va_up]
theorem va_up_n {α : Type} {f : Nat → α} {k j : Nat} {v : α} (h : j ≠ k) : va_up f k v j = f j := by simp [va_up, h]
section MR1
variable {G : q_G} {M : q_M} {d C S : Nat} {P : q_R → s_T → Prop} {pc : Nat} {L : List (Option Value)} {st : List Value} {s : s_T}
/-- the reference reads and writes its row -/
theorem m_ld {X : x_T} {e : Nat} (dc : decode M.2.2.1 pc = .ok (.iaload, 1)) (hM : m_R X s) (he : e < 203) (K : s_W G M d C S P (pc + 1) L (.int (nI (X e)) :: st) s) : s_W G M d C S P pc L (.int (nI e) :: .ref 213 :: st) s :=
  s_iald (k := 213) (len := 203) dc rfl (n_bd he (by decide)) (by rw [nI_clamp (by omega)]; exact hM e he) K
theorem m_st {X : x_T} {e v : Nat} (dc : decode M.2.2.1 pc = .ok (.iastore, 1)) (hM : m_R X s) (he : e < 203) (K : ∀ s', m_R (va_up X e v) s' → s_fr 213 214 s s' → s_W G M d C S P (pc + 1) L st s') : s_W G M d C S P pc L (.int (nI v) :: .int (nI e) :: .ref 213 :: st) s := by
  refine s_iast (k := 213) (len := 203) dc rfl (n_bd he (by decide)) rfl ?_
  rw [nI_clamp (by omega)]
  exact K _ (m_R_set hM) (s_fr_u s_fr_rf (Nat.le_refl _) (by decide))
/-- any row of ints in one cell: what is written is written there -/
theorem a_st {k len e : Nat} {x : Int32} (dc : decode M.2.2.1 pc = .ok (.iastore, 1)) (hl : q_lay k = .inl (0, len, none)) (he : e < len) (h2 : len < 2 ^ 31) (K : ∀ s', s' k = upd (s k) e x → s_fr k (k + 1) s s' → s_W G M d C S P (pc + 1) L st s') : s_W G M d C S P pc L (.int x :: .int (nI e) :: .ref k :: st) s := by
  refine s_iast dc hl (n_bd he h2) rfl ?_
  rw [nI_clamp (by omega)]
  exact K _ (by simp [s_u, va_up]) (s_fr_u s_fr_rf (Nat.le_refl _) (by omega))
theorem a_ld {k len e : Nat} {v : Int32} (dc : decode M.2.2.1 pc = .ok (.iaload, 1)) (hl : q_lay k = .inl (0, len, none)) (he : e < len) (h2 : len < 2 ^ 31) (hv : s k e = v) (K : s_W G M d C S P (pc + 1) L (.int v :: st) s) : s_W G M d C S P pc L (.int (nI e) :: .ref k :: st) s :=
  s_iald dc hl (n_bd he h2) (by rw [nI_clamp (by omega)]; exact hv) K
end MR1
/-- the answers of the reference's questions on an int -/
def inB (x lo hi : Int32) : Bool := decide (lo ≤ x ∧ x ≤ hi)
theorem i64_le {x y : Int32} : x.toInt64 ≤ y.toInt64 ↔ x ≤ y := by rw [Int64.le_iff_toInt_le, Int32.toInt_toInt64, Int32.toInt_toInt64, Int32.le_iff_toInt_le]
theorem lg_lt0 {x y : Int64} : lg_cmp x y < 0 ↔ x < y := by
  unfold lg_cmp
  by_cases h1 : x > y
  · rw [if_pos h1]
    constructor
    · intro q; exact absurd q (by decide)
    · intro q; exact absurd q (by rw [Int64.lt_iff_toInt_lt] at *; have h1 : y.toInt < x.toInt := (Int64.lt_iff_toInt_lt).mp h1; omega)
  · rw [if_neg h1]
    by_cases h2 : x = y
    · subst h2
      rw [if_pos rfl]
      constructor
      · intro q; exact absurd q (by decide)
      · intro q; exact absurd q h1
    · rw [if_neg h2]
      constructor
      · intro _
        rw [Int64.lt_iff_toInt_lt]
        have h1 : ¬ y.toInt < x.toInt := fun q => h1 ((Int64.lt_iff_toInt_lt).mpr q)
        have h2 : x.toInt ≠ y.toInt := fun q => h2 (Int64.toInt_inj.mp q)
        omega
      · intro _; decide
theorem lg_gt0 {x y : Int64} : 0 < lg_cmp x y ↔ y < x := by
  unfold lg_cmp
  by_cases h1 : x > y
  · rw [if_pos h1]
    exact ⟨fun _ => h1, fun _ => by decide⟩
  · rw [if_neg h1]
    constructor
    · intro q
      by_cases h2 : x = y
      · rw [if_pos h2] at q; exact absurd q (by decide)
      · rw [if_neg h2] at q; exact absurd q (by decide)
    · intro q; exact absurd q h1
section MR2
variable {G : q_G} {M : q_M} {d C S : Nat} {P : q_R → s_T → Prop} {pc : Nat} {L : List (Option Value)} {st : List Value} {s : s_T}
theorem a_ald {k len b e : Nat} (dc : decode M.2.2.1 pc = .ok (.aaload, 1)) (hl : q_lay k = .inl (5, len, some b)) (he : e < len) (h2 : len < 2 ^ 31) (K : s_W G M d C S P (pc + 1) L (.ref (b + e) :: st) s) : s_W G M d C S P pc L (.int (nI e) :: .ref k :: st) s :=
  s_aald dc hl (n_bd he h2) (by rw [nI_clamp (by omega)]; exact K)
theorem a_zld {k len e : Nat} {v : Int32} (dc : decode M.2.2.1 pc = .ok (.baload, 1)) (hl : q_lay k = .inl (1, len, none)) (he : e < len) (h2 : len < 2 ^ 31) (hv : s k e = v) (K : s_W G M d C S P (pc + 1) L (.int v :: st) s) : s_W G M d C S P pc L (.int (nI e) :: .ref k :: st) s :=
  s_zald dc hl (n_bd he h2) (by rw [nI_clamp (by omega)]; exact hv) K
theorem a_cld {k len e : Nat} {v : Int32} (dc : decode M.2.2.1 pc = .ok (.caload, 1)) (hl : q_lay k = .inl (2, len, none)) (he : e < len) (h2 : len < 2 ^ 31) (hv : s k e = v) (K : s_W G M d C S P (pc + 1) L (.int v :: st) s) : s_W G M d C S P pc L (.int (nI e) :: .ref k :: st) s :=
  s_cald dc hl (n_bd he h2) (by rw [nI_clamp (by omega)]; exact hv) K
theorem nar_b (b : Bool) : vp_nar .boolean (bI b) = bI b := by cases b <;> decide
theorem a_zst {k len e : Nat} {b : Bool} (dc : decode M.2.2.1 pc = .ok (.bastore, 1)) (hl : q_lay k = .inl (1, len, none)) (he : e < len) (h2 : len < 2 ^ 31) (K : ∀ s', s' k = upd (s k) e (bI b) → s_fr k (k + 1) s s' → s_W G M d C S P (pc + 1) L st s') : s_W G M d C S P pc L (.int (bI b) :: .int (nI e) :: .ref k :: st) s := by
  refine s_zast dc hl (n_bd he h2) (nar_b b) ?_
  rw [nI_clamp (by omega)]
  exact K _ (by simp [s_u, va_up]) (s_fr_u s_fr_rf (Nat.le_refl _) (by omega))
/-- a field that is an int, written -/
theorem a_put {k ci j idx : Nat} {fr : List (Option Nat)} {x : Int32} {ty : FieldType} (dc : decode M.2.2.1 pc = .ok (.putfield idx, 3)) (hf : q_fp M.1 idx ci j ty false) (hl : q_lay k = .inr (ci, fr)) (hr : fr[j]? = some none) (hn1 : narrow ty (.int x) = .int x) (hn2 : fits ty (.int x) = true) (K : ∀ s', s' k = upd (s k) j x → s_fr k (k + 1) s s' → s_W G M d C S P (pc + 3) L st s') : s_W G M d C S P pc L (.int x :: .ref k :: st) s :=
  s_putI dc hf hl hr hn1 hn2 (K _ (by simp [s_u, va_up]) (s_fr_u s_fr_rf (Nat.le_refl _) (by omega)))
end MR2
/-! ===== the class's Shop at o holds the shop X ===== -/
def c_R (X : x_T) (s : s_T) (o : Nat) : Prop :=
  (s o 0 = nI (X 0) ∧ s o 1 = nI (X 1)) ∧
  (∀ j, j < X 0 → s (o + 2 + j) 0 = nI (X (2 + j)) ∧ s (o + 2 + j) 1 = nI (X (7 + j)) ∧ s (o + 2 + j) 2 = nI (X (12 + j)) ∧ s (o + 7) j = nI (X (17 + j)) ∧ ∀ i, i < X (17 + j) → s (o + 9 + j) i = nI (X (22 + 4 * j + i))) ∧
  (∀ k, k < X 1 → s (o + 14) k = nI (X (42 + k)) ∧ s (o + 15) k = nI (X (62 + k)) ∧ s (o + 16) k = nI (X (82 + k)) ∧ s (o + 17) k = nI (X (102 + k)) ∧ s (o + 18) k = nI (X (122 + k))) ∧
  (∀ f g, f < 3 → g < 3 → s (o + 20 + f) g = nI (X (142 + 3 * f + g))) ∧
  (∀ m, m < 4 → s (o + 23) m = nI (X (151 + m)) ∧ ∀ i, i < X (151 + m) → s (o + 25 + m) i = nI (X (155 + 3 * m + i)) ∧ s (o + 30 + m) i = nI (X (155 + 3 * m + i) + X (167 + 3 * m + i))) ∧
  (∀ m, m < 4 → s (o + 35) m = nI (X (179 + m)) ∧ ∀ p, p < X (179 + m) → s (o + 37 + m) p = nI (X (183 + 5 * m + p)))
theorem c_R_fr {X : x_T} {lo hi o : Nat} {s s' : s_T} (h : c_R X s o) (hf : s_fr lo hi s s') (hb : o + 41 ≤ lo ∨ hi ≤ o) (hJ : X 0 ≤ 5) : c_R X s' o := by
  obtain ⟨⟨a1, a2⟩, b, c, d, e, f⟩ := h
  have r : ∀ k, o ≤ k → k < o + 41 → s' k = s k := fun k h1 h2 => hf k (by omega)
  refine ⟨⟨by rw [r o (by omega) (by omega)]; exact a1, by rw [r o (by omega) (by omega)]; exact a2⟩, fun j hj => ?_, fun k hk => ?_, fun x y hx hy => ?_, fun m hm => ?_, fun m hm => ?_⟩
  · rw [r (o + 2 + j) (by omega) (by omega), r (o + 7) (by omega) (by omega), r (o + 9 + j) (by omega) (by omega)]; exact b j hj
  · rw [r (o + 14) (by omega) (by omega), r (o + 15) (by omega) (by omega), r (o + 16) (by omega) (by omega), r (o + 17) (by omega) (by omega), r (o + 18) (by omega) (by omega)]; exact c k hk
  · rw [r (o + 20 + x) (by omega) (by omega)]; exact d x y hx hy
  · rw [r (o + 23) (by omega) (by omega), r (o + 25 + m) (by omega) (by omega), r (o + 30 + m) (by omega) (by omega)]; exact e m hm
  · rw [r (o + 35) (by omega) (by omega), r (o + 37 + m) (by omega) (by omega)]; exact f m hm
section CL
variable {X : x_T} {s : s_T} {o : Nat}
theorem cl_jobs (h : c_R X s o) : s o 0 = nI (X 0) := h.1.1
theorem cl_ops (h : c_R X s o) : s o 1 = nI (X 1) := h.1.2
theorem cl_rel (h : c_R X s o) {j : Nat} (hj : j < X 0) : s (o + 2 + j) 0 = nI (X (2 + j)) := (h.2.1 j hj).1
theorem cl_due (h : c_R X s o) {j : Nat} (hj : j < X 0) : s (o + 2 + j) 1 = nI (X (7 + j)) := (h.2.1 j hj).2.1
theorem cl_wt (h : c_R X s o) {j : Nat} (hj : j < X 0) : s (o + 2 + j) 2 = nI (X (12 + j)) := (h.2.1 j hj).2.2.1
theorem cl_len (h : c_R X s o) {j : Nat} (hj : j < X 0) : s (o + 7) j = nI (X (17 + j)) := (h.2.1 j hj).2.2.2.1
theorem cl_rt (h : c_R X s o) {j i : Nat} (hj : j < X 0) (hi : i < X (17 + j)) : s (o + 9 + j) i = nI (X (22 + 4 * j + i)) := (h.2.1 j hj).2.2.2.2 i hi
theorem cl_job (h : c_R X s o) {k : Nat} (hk : k < X 1) : s (o + 14) k = nI (X (42 + k)) := (h.2.2.1 k hk).1
theorem cl_mc (h : c_R X s o) {k : Nat} (hk : k < X 1) : s (o + 15) k = nI (X (62 + k)) := (h.2.2.1 k hk).2.1
theorem cl_du (h : c_R X s o) {k : Nat} (hk : k < X 1) : s (o + 16) k = nI (X (82 + k)) := (h.2.2.1 k hk).2.2.1
theorem cl_fa (h : c_R X s o) {k : Nat} (hk : k < X 1) : s (o + 17) k = nI (X (102 + k)) := (h.2.2.1 k hk).2.2.2.1
theorem cl_st (h : c_R X s o) {k : Nat} (hk : k < X 1) : s (o + 18) k = nI (X (122 + k)) := (h.2.2.1 k hk).2.2.2.2
theorem cl_su (h : c_R X s o) {f g : Nat} (hf : f < 3) (hg : g < 3) : s (o + 20 + f) g = nI (X (142 + 3 * f + g)) := h.2.2.2.1 f g hf hg
theorem cl_bn (h : c_R X s o) {m : Nat} (hm : m < 4) : s (o + 23) m = nI (X (151 + m)) := (h.2.2.2.2.1 m hm).1
theorem cl_bf (h : c_R X s o) {m i : Nat} (hm : m < 4) (hi : i < X (151 + m)) : s (o + 25 + m) i = nI (X (155 + 3 * m + i)) := ((h.2.2.2.2.1 m hm).2 i hi).1
theorem cl_bb (h : c_R X s o) {m i : Nat} (hm : m < 4) (hi : i < X (151 + m)) : s (o + 30 + m) i = nI (X (155 + 3 * m + i) + X (167 + 3 * m + i)) := ((h.2.2.2.2.1 m hm).2 i hi).2
theorem cl_on (h : c_R X s o) {m : Nat} (hm : m < 4) : s (o + 35) m = nI (X (179 + m)) := (h.2.2.2.2.2 m hm).1
theorem cl_ord (h : c_R X s o) {m p : Nat} (hm : m < 4) (hp : p < X (179 + m)) : s (o + 37 + m) p = nI (X (183 + 5 * m + p)) := (h.2.2.2.2.2 m hm).2 p hp
end CL
/-! what the invariant says of one thing -/
theorem x_op {X : x_T} (h : x_wf X) {o : Nat} (ho : o < X 1) : X 0 ≤ 5 ∧ X 1 ≤ 20 ∧ X (42 + o) < X 0 ∧ X (122 + o) < X (17 + X (42 + o)) ∧ X (17 + X (42 + o)) ≤ 4 ∧ X (22 + 4 * X (42 + o) + X (122 + o)) = o ∧ X (62 + o) < 4 ∧ 1 ≤ X (82 + o) ∧ X (82 + o) ≤ 30 ∧ X (102 + o) < 3 := by
  obtain ⟨h1, h2, h3, h4, h5, -⟩ := h
  obtain ⟨a1, a2, a3, a4, a5, a6, a7⟩ := h5 o ho
  exact ⟨h1, h2, a1, a2, (h3 _ a1).2.2.2, a3, a4, a5, a6, a7⟩
theorem x_jb {X : x_T} (h : x_wf X) {j : Nat} (hj : j < X 0) : X 0 ≤ 5 ∧ X 1 ≤ 20 ∧ X (2 + j) ≤ 99 ∧ X (7 + j) ≤ 200 ∧ X (12 + j) ≤ 9 ∧ X (17 + j) ≤ 4 := by
  obtain ⟨h1, h2, h3, -⟩ := h
  obtain ⟨a1, a2, a3, a4⟩ := h3 j hj
  exact ⟨h1, h2, a1, a2, a3, a4⟩
theorem x_rt {X : x_T} (h : x_wf X) {j i : Nat} (hj : j < X 0) (hi : i < X (17 + j)) : X (22 + 4 * j + i) < X 1 ∧ X (42 + X (22 + 4 * j + i)) = j ∧ X (122 + X (22 + 4 * j + i)) = i := h.2.2.2.1 j i hj hi
theorem x_sz {X : x_T} (h : x_wf X) : X 0 ≤ 5 ∧ X 1 ≤ 20 := ⟨h.1, h.2.1⟩
theorem x_mn {X : x_T} (h : x_wf X) {m : Nat} (hm : m < 4) : X (151 + m) ≤ 3 ∧ X (179 + m) ≤ 5 := ⟨(h.2.2.2.2.2.2.2.1 m hm).1, (h.2.2.2.2.2.2.2.2.1 m hm).1⟩
theorem x_br {X : x_T} (h : x_wf X) {m i : Nat} (hm : m < 4) (hi : i < X (151 + m)) : X (155 + 3 * m + i) ≤ 400 ∧ 1 ≤ X (167 + 3 * m + i) ∧ X (167 + 3 * m + i) ≤ 60 := (h.2.2.2.2.2.2.2.1 m hm).2 i hi
theorem x_od {X : x_T} (h : x_wf X) {m p : Nat} (hm : m < 4) (hp : p < X (179 + m)) : X (183 + 5 * m + p) < X 1 ∧ X (62 + X (183 + 5 * m + p)) = m := ⟨((h.2.2.2.2.2.2.2.2.1 m hm).2 p hp).1, ((h.2.2.2.2.2.2.2.2.1 m hm).2 p hp).2.1⟩
theorem x_od1 {X : x_T} (h : x_wf X) {m p p' : Nat} (hm : m < 4) (hp : p < X (179 + m)) (hp' : p' < X (179 + m)) (e : X (183 + 5 * m + p) = X (183 + 5 * m + p')) : p = p' := ((h.2.2.2.2.2.2.2.2.1 m hm).2 p hp).2.2 p' hp' e
theorem x_pos {X : x_T} (h : x_wf X) {o : Nat} (ho : o < X 1) : ∃ p, p < X (179 + X (62 + o)) ∧ X (183 + 5 * X (62 + o) + p) = o := h.2.2.2.2.2.2.2.2.2 o ho
theorem x_su {X : x_T} (h : x_wf X) {f g : Nat} (hf : f < 3) (hg : g < 3) : X (142 + 3 * f + g) ≤ 9 := h.2.2.2.2.2.2.1 f g hf hg
theorem o7_le {o : Nat} (h : isX7 o) : 1 ≤ o ∧ o ≤ 83 := by rcases h with rfl | rfl | rfl <;> decide
theorem o10_le {o : Nat} (h : isX10 o) : 124 ≤ o ∧ o ≤ 162 := by rcases h with rfl | rfl | rfl | rfl <;> decide
