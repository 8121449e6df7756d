/-! ===== THE LIGHT LOGIC: a state of the whole system is a number of cells n and what each holds, h; addresses, words, rooms and frames are hidden in q_W ===== -/
abbrev q_C : Type := (Nat × vp_A) ⊕ (Nat × List Value)
abbrev q_H : Type := Nat → q_C
abbrev q_R : Type := Option Value ⊕ String
abbrev q_M : Type := String × MethodName × ByteArray × Nat × Option FieldType × List (Nat × Nat × Nat × Nat)
abbrev q_G : Type := va_G × (Nat → ClassId) × Nat × (Nat → Int32)
def q_v (ad : Nat → Nat) (v : Value) : Value := match v with
  | .ref k => .ref (ad k)
  | w => w
def q_a (ad : Nat → Nat) (a : vp_A) : vp_A := (a.1, match a.2 with
  | .inl f => .inl f
  | .inr (.inl f) => .inr (.inl f)
  | .inr (.inr (.inl f)) => .inr (.inr (.inl f))
  | .inr (.inr (.inr (.inl f))) => .inr (.inr (.inr (.inl f)))
  | .inr (.inr (.inr (.inr f))) => .inr (.inr (.inr (.inr (fun j => (f j).map ad)))))
def q_e (tid : Nat → ClassId) (ad : Nat → Nat) (x : q_C) : va_E := match x with
  | .inl a => .inl (tid a.1, q_a ad a.2)
  | .inr o => .inr (o.1, o.2.map (q_v ad))
def q_w (tid : Nat → ClassId) (ad : Nat → Nat) (n : Nat) (h : q_H) : va_W := (List.range n).map fun k => (ad k, q_e tid ad (h k))
def q_ok (n : Nat) (x : q_C) : Prop := match x with
  | .inl a => ∀ f : Nat → Option Nat, a.2.2 = .inr (.inr (.inr (.inr f))) → ∀ j k, f j = some k → k < n
  | .inr o => ∀ k, Value.ref k ∈ o.2 → k < n
def q_ov (n : Nat) (v : Value) : Prop := ∀ k, v = .ref k → k < n ∨ 1000000 ≤ k
def q_ty (tid : Nat → ClassId) : List (ClassId × FieldType) := [(tid 0, .int), (tid 1, .boolean), (tid 2, .char), (tid 3, .long), (tid 4, .double), (tid 5, .array .int)]
theorem q_w_at {tid : Nat → ClassId} {ad : Nat → Nat} {n : Nat} {h : q_H} {k : Nat} (hk : k < n) : (q_w tid ad n h)[k]? = some (ad k, q_e tid ad (h k)) := by
  unfold q_w
  rw [List.getElem?_map, List.getElem?_range hk]
  rfl
theorem q_w_len {tid : Nat → ClassId} {ad : Nat → Nat} {n : Nat} {h : q_H} : (q_w tid ad n h).length = n := by
  unfold q_w
  rw [List.length_map, List.length_range]
theorem q_w_inv {tid : Nat → ClassId} {ad : Nat → Nat} {n : Nat} {h : q_H} {k : Nat} {q : Nat × va_E} (hq : (q_w tid ad n h)[k]? = some q) : k < n ∧ q = (ad k, q_e tid ad (h k)) := by
  have h1 : k < (q_w tid ad n h).length := (List.getElem?_eq_some_iff.mp hq).1
  rw [q_w_len] at h1
  rw [q_w_at h1] at hq
  exact ⟨h1, (Option.some.inj hq).symm⟩
theorem q_w_set {tid : Nat → ClassId} {ad : Nat → Nat} {n : Nat} {h : q_H} {k : Nat} (hk : k < n) (x : q_C) : (q_w tid ad n h).set k (ad k, q_e tid ad x) = q_w tid ad n (va_up h k x) := by
  apply List.ext_getElem?
  intro i
  by_cases hi : i < n
  · rw [q_w_at hi]
    by_cases e : i = k
    · subst e
      rw [List.getElem?_set_self (by rw [q_w_len]; exact hi)]
      simp [va_up]
    · rw [List.getElem?_set_ne (fun q => e q.symm), q_w_at hi]
      simp [va_up, e]
  · rw [List.getElem?_eq_none (by rw [List.length_set, q_w_len]; omega), List.getElem?_eq_none (by rw [q_w_len]; omega)]
theorem q_v_congr {ad ad' : Nat → Nat} {v : Value} (h : ∀ k, v = .ref k → ad' k = ad k) : q_v ad' v = q_v ad v := by
  cases v with
  | ref k => show Value.ref _ = Value.ref _; rw [h k rfl]
  | _ => rfl
theorem q_e_congr {tid : Nat → ClassId} {ad ad' : Nat → Nat} {n : Nat} {x : q_C} (hx : q_ok n x) (h : ∀ k, k < n → ad' k = ad k) : q_e tid ad' x = q_e tid ad x := by
  cases x with
  | inl a =>
    obtain ⟨t, len, b⟩ := a
    show Sum.inl (tid t, q_a ad' (len, b)) = Sum.inl (tid t, q_a ad (len, b))
    rcases b with f | f | f | f | f
    · rfl
    · rfl
    · rfl
    · rfl
    · have e : (fun j => (f j).map ad') = (fun j => (f j).map ad) := by
        funext j
        cases hj : f j with
        | none => rfl
        | some k => show some (ad' k) = some (ad k); rw [h k (hx f rfl j k hj)]
      show Sum.inl (tid t, (len, Sum.inr (Sum.inr (Sum.inr (Sum.inr (fun j => (f j).map ad')))))) = Sum.inl (tid t, (len, Sum.inr (Sum.inr (Sum.inr (Sum.inr (fun j => (f j).map ad))))))
      rw [e]
  | inr o =>
    show Sum.inr (o.1, o.2.map (q_v ad')) = Sum.inr (o.1, o.2.map (q_v ad))
    have e : o.2.map (q_v ad') = o.2.map (q_v ad) := List.map_congr_left fun v hv => q_v_congr (fun k hk => h k (hx k (by rw [← hk]; exact hv)))
    rw [e]
theorem q_w_congr {tid : Nat → ClassId} {ad ad' : Nat → Nat} {n : Nat} {h h' : q_H} (hok : ∀ k, k < n → q_ok n (h k)) (ha : ∀ k, k < n → ad' k = ad k) (hh : ∀ k, k < n → h' k = h k) : q_w tid ad' n h' = q_w tid ad n h := by
  unfold q_w
  refine List.map_congr_left fun k hk => ?_
  have hk := List.mem_range.mp hk
  rw [ha k hk, hh k hk, q_e_congr (hok k hk) ha]
theorem q_w_push {tid : Nat → ClassId} {ad : Nat → Nat} {n q : Nat} {h : q_H} {x : q_C} (hok : ∀ k, k < n → q_ok n (h k)) {ad' : Nat → Nat} (ha : ∀ k, k < n → ad' k = ad k) (hq : ad' n = q) : q_w tid ad n h ++ [(q, q_e tid ad' x)] = q_w tid ad' (n + 1) (va_up h n x) := by
  have e : q_w tid ad' (n + 1) (va_up h n x) = q_w tid ad' n (va_up h n x) ++ [(ad' n, q_e tid ad' (va_up h n x n))] := by
    unfold q_w
    rw [List.range_succ, List.map_append]
    rfl
  rw [e, hq, q_w_congr (h := h) hok ha (fun k hk => by simp [va_up, Nat.ne_of_lt hk])]
  simp [va_up]
theorem q_ok_mono {n n' : Nat} (hn : n ≤ n') {x : q_C} (h : q_ok n x) : q_ok n' x := by
  cases x with
  | inl a => exact fun f hf j k hj => Nat.lt_of_lt_of_le (h f hf j k hj) hn
  | inr o => exact fun k hk => Nat.lt_of_lt_of_le (h k hk) hn
theorem q_ov_mono {n n' : Nat} (hn : n ≤ n') {v : Value} (h : q_ov n v) : q_ov n' v := fun k hk => (h k hk).imp (fun q => Nat.lt_of_lt_of_le q hn) id
theorem q_ov_i {n : Nat} {x : Int32} : q_ov n (.int x) := fun k h => by cases h
theorem q_ov_l {n : Nat} {x : Int64} : q_ov n (.long x) := fun k h => by cases h
theorem q_ov_d {n : Nat} {x : UInt64} : q_ov n (.double x) := fun k h => by cases h
theorem q_ov_n {n : Nat} : q_ov n .null := fun k h => by cases h
theorem q_ov_r {n k : Nat} (hk : k < n ∨ 1000000 ≤ k) : q_ov n (.ref k) := fun j h => by cases h; exact hk
/-- the stack -/
abbrev q_os (n : Nat) (st : List Value) : Prop := ∀ v ∈ st, q_ov n v
theorem q_os_c {n : Nat} {v : Value} {st : List Value} (h1 : q_ov n v) (h2 : q_os n st) : q_os n (v :: st) := fun w hw => (List.mem_cons.mp hw).elim (fun e => e ▸ h1) (h2 w)
theorem q_os_h {n : Nat} {v : Value} {st : List Value} (h : q_os n (v :: st)) : q_ov n v := h v List.mem_cons_self
theorem q_os_t {n : Nat} {v : Value} {st : List Value} (h : q_os n (v :: st)) : q_os n st := fun w hw => h w (List.mem_cons_of_mem _ hw)
/-- the locals -/
def q_oL (n : Nat) (L : List (Option Value)) : Prop := ∀ (i : Nat) (v : Value), L[i]? = some (some v) → q_ov n v
def q_L (ad : Nat → Nat) (nL : Nat) (ls : Array Slot) (L : List (Option Value)) : Prop := ls.size = nL ∧ lv_wf ls ∧ ∀ (i : Nat) (v : Value), L[i]? = some (some v) → ls[i]? = some (.val (q_v ad v))
theorem q_oL_mono {n n' : Nat} (hn : n ≤ n') {L : List (Option Value)} (h : q_oL n L) : q_oL n' L := fun i v hi => q_ov_mono hn (h i v hi)
theorem q_os_mono {n n' : Nat} (hn : n ≤ n') {st : List Value} (h : q_os n st) : q_os n' st := fun v hv => q_ov_mono hn (h v hv)
theorem q_st_congr {ad ad' : Nat → Nat} {n : Nat} {st : List Value} (h : q_os n st) (ha : ∀ k, k < n ∨ 1000000 ≤ k → ad' k = ad k) : st.map (q_v ad') = st.map (q_v ad) := List.map_congr_left fun v hv => q_v_congr (fun k hk => ha k (h v hv k hk))
theorem q_L_congr {ad ad' : Nat → Nat} {n nL : Nat} {ls : Array Slot} {L : List (Option Value)} (h : q_oL n L) (hl : q_L ad nL ls L) (ha : ∀ k, k < n ∨ 1000000 ≤ k → ad' k = ad k) : q_L ad' nL ls L := ⟨hl.1, hl.2.1, fun i v hi => by rw [q_v_congr (ad := ad) (fun k hk => ha k (h i v hi k hk))]; exact hl.2.2 i v hi⟩
def q_c1 (o : Option (Option Value)) : Bool := match o with
  | some (some v) => !(v.category == 2)
  | _ => true
theorem q_oL_set {n : Nat} {L : List (Option Value)} {i : Nat} {v : Value} (h : q_oL n L) (hv : q_ov n v) : q_oL n (L.set i (some v)) := by
  intro j w hj
  by_cases e : i = j
  · subst e
    have hlt : i < (L.set i (some v)).length := (List.getElem?_eq_some_iff.mp hj).1
    rw [List.length_set] at hlt
    rw [List.getElem?_set_self hlt] at hj
    cases hj
    exact hv
  · rw [List.getElem?_set_ne e] at hj
    exact h j w hj
theorem q_oL_none {n : Nat} {L : List (Option Value)} {i : Nat} (h : q_oL n L) : q_oL n (L.set i none) := by
  intro j w hj
  by_cases e : i = j
  · subst e
    have hlt : i < (L.set i none).length := (List.getElem?_eq_some_iff.mp hj).1
    rw [List.length_set] at hlt
    rw [List.getElem?_set_self hlt] at hj
    cases hj
  · rw [List.getElem?_set_ne e] at hj
    exact h j w hj
theorem q_v_cat {ad : Nat → Nat} {v : Value} : (q_v ad v).category = v.category := by cases v <;> rfl
theorem q_L_one {ad : Nat → Nat} {nL : Nat} {ls : Array Slot} {L : List (Option Value)} (hl : q_L ad nL ls L) {j : Nat} {w : Value} (hj : L[j]? = some (some w)) : lv_has ls nL [(j, q_v ad w)] := ⟨hl.1, hl.2.1, fun q hq => by
  rw [List.mem_singleton] at hq
  subst hq
  exact hl.2.2 j w hj⟩
theorem q_L_nil {ad : Nat → Nat} {nL : Nat} {ls : Array Slot} {L : List (Option Value)} (hl : q_L ad nL ls L) : lv_has ls nL [] := ⟨hl.1, hl.2.1, fun q hq => by cases hq⟩
def q_pr (ad : Nat → Nat) (L : List (Option Value)) : List (Nat × Value) := (List.range L.length).filterMap fun i => match L[i]? with
  | some (some v) => some (i, q_v ad v)
  | _ => none
theorem q_pr_mem {ad : Nat → Nat} {L : List (Option Value)} {i : Nat} {v : Value} (hi : L[i]? = some (some v)) : (i, q_v ad v) ∈ q_pr ad L := by
  unfold q_pr
  rw [List.mem_filterMap]
  exact ⟨i, List.mem_range.mpr (List.getElem?_eq_some_iff.mp hi).1, by simp [hi]⟩
theorem q_pr_inv {ad : Nat → Nat} {L : List (Option Value)} {q : Nat × Value} (h : q ∈ q_pr ad L) : ∃ v, L[q.1]? = some (some v) ∧ q.2 = q_v ad v := by
  unfold q_pr at h
  rw [List.mem_filterMap] at h
  obtain ⟨i, -, hi⟩ := h
  cases hv : L[i]? with
  | none => simp [hv] at hi
  | some z => cases z with
    | none => simp [hv] at hi
    | some v =>
      simp [hv] at hi
      subst hi
      exact ⟨v, hv, rfl⟩
theorem q_L_pr {ad : Nat → Nat} {nL : Nat} {ls : Array Slot} {L : List (Option Value)} (hl : q_L ad nL ls L) : lv_has ls nL (q_pr ad L) := ⟨hl.1, hl.2.1, fun q hq => by
  obtain ⟨v, h1, h2⟩ := q_pr_inv hq
  rw [h2]
  exact hl.2.2 _ _ h1⟩
/-- what a store of one slot does -/
theorem q_L_st {ad : Nat → Nat} {nL : Nat} {ls' : Array Slot} {L : List (Option Value)} {i : Nat} {v : Value} {z : Option Value} (hl : lv_has ls' nL ((i, v) :: (q_pr ad L).filter (fun q => !(q.1 == i) && !(q.1 + 1 == i && q.2.category == 2)))) (h1 : q_c1 (L[i - 1]?) = true) (hz : ∀ w, z = some w → q_v ad w = v) : q_L ad nL ls' (L.set i z) := by
  obtain ⟨s1, s2, s3⟩ := hl
  refine ⟨s1, s2, fun j w hj => ?_⟩
  by_cases e : i = j
  · subst e
    have hlt : i < (L.set i z).length := (List.getElem?_eq_some_iff.mp hj).1
    rw [List.length_set] at hlt
    rw [List.getElem?_set_self hlt] at hj
    rw [hz w (Option.some.inj hj)]
    exact s3 (i, v) List.mem_cons_self
  · rw [List.getElem?_set_ne e] at hj
    refine s3 (j, q_v ad w) (List.mem_cons_of_mem _ ?_)
    rw [List.mem_filter]
    refine ⟨q_pr_mem hj, ?_⟩
    have ej : (j == i) = false := by simp; exact fun q => e q.symm
    by_cases e3 : j + 1 = i
    · have hj' : L[i - 1]? = some (some w) := by rw [← e3]; exact hj
      rw [hj'] at h1
      have hw : (w.category == 2) = false := by
        have h1 : (!(w.category == 2)) = true := h1
        simpa using h1
      simp [ej, q_v_cat, hw]
    · have e4 : (j + 1 == i) = false := by simp; exact e3
      simp [ej, e4]
/-- .. and of two -/
theorem q_L_st2 {ad : Nat → Nat} {nL : Nat} {ls' : Array Slot} {L : List (Option Value)} {i : Nat} {v : Value} (hl : lv_has ls' nL ((i, v) :: (q_pr ad L).filter (fun q => !(q.1 == i) && (!(q.1 == i + 1) && !(q.1 + 1 == i && q.2.category == 2))))) (h1 : q_c1 (L[i - 1]?) = true) (hz : q_v ad v = v) : q_L ad nL ls' ((L.set i (some v)).set (i + 1) none) := by
  obtain ⟨s1, s2, s3⟩ := hl
  refine ⟨s1, s2, fun j w hj => ?_⟩
  by_cases e0 : i + 1 = j
  · subst e0
    have hlt : i + 1 < ((L.set i (some v)).set (i + 1) none).length := (List.getElem?_eq_some_iff.mp hj).1
    rw [List.length_set] at hlt
    rw [List.getElem?_set_self hlt] at hj
    cases hj
  · rw [List.getElem?_set_ne e0] at hj
    by_cases e : i = j
    · subst e
      have hlt : i < (L.set i (some v)).length := (List.getElem?_eq_some_iff.mp hj).1
      rw [List.length_set] at hlt
      rw [List.getElem?_set_self hlt] at hj
      cases hj
      rw [hz]
      exact s3 (i, v) List.mem_cons_self
    · rw [List.getElem?_set_ne e] at hj
      refine s3 (j, q_v ad w) (List.mem_cons_of_mem _ ?_)
      rw [List.mem_filter]
      refine ⟨q_pr_mem hj, ?_⟩
      have ej : (j == i) = false := by simp; exact fun q => e q.symm
      have ej2 : (j == i + 1) = false := by simp; exact fun q => e0 q.symm
      by_cases e3 : j + 1 = i
      · have hj' : L[i - 1]? = some (some w) := by rw [← e3]; exact hj
        rw [hj'] at h1
        have hw : (w.category == 2) = false := by
          have h1 : (!(w.category == 2)) = true := h1
          simpa using h1
        simp [ej, ej2, q_v_cat, hw]
      · have e4 : (j + 1 == i) = false := by simp; exact e3
        simp [ej, ej2, e4]
