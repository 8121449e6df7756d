/-! ===== pure: all rows of one machine ===== -/
/-- the i-th of the first n that are in K -/
def x_sn (K : Nat → Bool) : Nat → Nat → Nat
  | 0, _ => 0
  | n + 1, i => if K n = true ∧ x_ct K n = i then n else x_sn K n i
theorem x_sn_ok {K : Nat → Bool} : ∀ n i, i < x_ct K n → x_sn K n i < n ∧ K (x_sn K n i) = true ∧ x_ct K (x_sn K n i) = i
  | 0, i, h => absurd h (by show ¬ i < 0; omega)
  | n + 1, i, h => by
    by_cases e : K n = true ∧ x_ct K n = i
    · have e1 : x_sn K (n + 1) i = n := by show (if _ then _ else _) = _; rw [if_pos e]
      rw [e1]; exact ⟨by omega, e⟩
    · have e1 : x_sn K (n + 1) i = x_sn K n i := by show (if _ then _ else _) = _; rw [if_neg e]
      rw [e1]
      have h2 : i < x_ct K n := by
        rw [x_ct_s] at h
        by_cases e2 : K n = true
        · rw [if_pos e2] at h
          have : x_ct K n ≠ i := fun q => e ⟨e2, q⟩
          omega
        · rw [if_neg e2] at h; omega
      have q := x_sn_ok n i h2
      exact ⟨by omega, q.2⟩
/-- the operations of a machine by their numbers -/
def x_so (X : x_T) (m i : Nat) : Nat := x_sn (x_om X m) (X 1) i
theorem x_so_ok {X : x_T} (hw : x_wf X) {m i : Nat} (hm : m < 4) (hi : i < X (179 + m)) : x_so X m i < X 1 ∧ X (62 + x_so X m i) = m ∧ x_ct (x_om X m) (x_so X m i) = i := by
  have q := x_sn_ok (K := x_om X m) (X 1) i (by rw [x_om_n hw hm]; exact hi)
  exact ⟨q.1, of_decide_eq_true q.2.1, q.2.2⟩
theorem x_so_lt {X : x_T} (hw : x_wf X) {m i j : Nat} (hm : m < 4) (hij : i < j) (hj : j < X (179 + m)) : x_so X m i < x_so X m j := by
  have a := x_so_ok hw hm (i := i) (by omega)
  have b := x_so_ok hw hm hj
  apply Classical.byContradiction
  intro q
  have h := x_ct_mn (K := x_om X m) (a := x_so X m j) (x_so X m i) (by omega)
  rw [a.2.2, b.2.2] at h
  omega
theorem x_so_in {X : x_T} (hw : x_wf X) {m i j : Nat} (hm : m < 4) (hi : i < X (179 + m)) (hj : j < X (179 + m)) (e : x_so X m i = x_so X m j) : i = j := by
  rcases Nat.lt_trichotomy i j with h | h | h
  · have := x_so_lt hw hm h hj; omega
  · exact h
  · have := x_so_lt hw hm h hi; omega
theorem x_so_i {X : x_T} (hw : x_wf X) {m i j : Nat} (hm : m < 4) (hi : i < X (179 + m)) (hj : j < X (179 + m)) : x_so X m i < x_so X m j ↔ i < j := by
  constructor
  · intro h
    rcases Nat.lt_trichotomy i j with q | q | q
    · exact q
    · subst q; omega
    · have := x_so_lt hw hm q hi; omega
  · intro h; exact x_so_lt hw hm h hj
theorem x_so_ct {X : x_T} (hw : x_wf X) {m k : Nat} (hm : m < 4) (hk : k < X 1) (hkm : X (62 + k) = m) : x_ct (x_om X m) k < X (179 + m) ∧ x_so X m (x_ct (x_om X m) k) = k := by
  have hK : x_om X m k = true := decide_eq_true hkm
  have h1 : x_ct (x_om X m) k < X (179 + m) := by
    have h2 := x_ct_mn (K := x_om X m) (a := k + 1) (X 1) (by omega)
    rw [x_ct_t hK, x_om_n hw hm] at h2
    omega
  have q := x_so_ok hw hm h1
  exact ⟨h1, x_ct_in (K := x_om X m) (decide_eq_true q.2.1) hK q.2.2⟩
/-- what grows by at least one within as many places is the row of all places -/
theorem x_idn {n : Nat} {g : Nat → Nat} (h1 : ∀ i, i < n → g i < n) (h2 : ∀ i j, i < j → j < n → g i < g j) : ∀ i, i < n → g i = i := by
  have lo : ∀ i, i < n → i ≤ g i := by
    intro i
    induction i with
    | zero => intro _; omega
    | succ i ih => intro hi; have a := ih (by omega); have b := h2 i (i + 1) (by omega) hi; omega
  have up : ∀ d i, i + d + 1 = n → g i ≤ i := by
    intro d
    induction d with
    | zero => intro i e; have := h1 i (by omega); omega
    | succ d ih => intro i e; have a := ih (i + 1) (by omega); have b := h2 i (i + 1) (by omega) (by omega); omega
  intro i hi
  have a := lo i hi
  have b := up (n - 1 - i) i (by omega)
  omega
/-- a sorted row of the operations of a machine -/
theorem x_so_eq {X : x_T} (hw : x_wf X) {m : Nat} (hm : m < 4) {f : Nat → Nat} (h1 : ∀ i, i < X (179 + m) → f i < X 1 ∧ X (62 + f i) = m) (h2 : ∀ i j, i < j → j < X (179 + m) → f i < f j) : ∀ i, i < X (179 + m) → f i = x_so X m i := by
  have hg := x_idn (n := X (179 + m)) (g := fun i => x_ct (x_om X m) (f i)) (fun i hi => (x_so_ct hw hm (h1 i hi).1 (h1 i hi).2).1) (fun i j hij hj => by
    have a := x_so_ct hw hm (h1 i (by omega)).1 (h1 i (by omega)).2
    have b := x_so_ct hw hm (h1 j hj).1 (h1 j hj).2
    have c := h2 i j hij hj
    rw [← a.2, ← b.2] at c
    exact (x_so_i hw hm a.1 b.1).mp c)
  intro i hi
  have a := x_so_ct hw hm (h1 i hi).1 (h1 i hi).2
  have b : x_ct (x_om X m) (f i) = i := hg i hi
  rw [b] at a
  exact a.2.symm
/-! the rows as lists of places -/
def x_gt (l : List Nat) (i : Nat) : Nat := l.getD i 0
abbrev x_vl (n : Nat) (l : List Nat) : Prop := l.length = n ∧ (∀ i, i < n → x_gt l i < n) ∧ (∀ i, i < n → ∀ j, j < n → x_gt l i = x_gt l j → i = j)
def a_fm (g : Nat → List (List Nat)) : Nat → Nat → List (List Nat)
  | _, 0 => []
  | i, c + 1 => g i ++ a_fm g (i + 1) c
/-- all ways to go on with a row, the least first -/
def a_cm (n : Nat) : Nat → List Nat → List (List Nat)
  | 0, w => [w]
  | d + 1, w => a_fm (fun i => if w.contains i = true then [] else a_cm n d (w ++ [i])) 0 n
theorem a_vl : ∀ n, n ≤ 5 → ∀ l ∈ a_cm n n [], x_vl n l := by decide +kernel
theorem a_ln : ∀ n, n ≤ 5 → (a_cm n n []).length ≤ 120 := by decide +kernel
theorem a_hd : ∀ n, n ≤ 5 → (a_cm n n []).head? = some (List.range n) := by decide +kernel
theorem x_gt_range {n i : Nat} (hi : i < n) : x_gt (List.range n) i = i := by
  unfold x_gt
  rw [List.getD_eq_getElem?_getD, List.getElem?_range hi]
  rfl
/-- the next row -/
def a_pv (p : Nat → Nat) : Nat → Nat
  | 0 => 0
  | c + 1 => if p (c + 1) < p c then a_pv p c else c + 1
def a_pt (p : Nat → Nat) (v : Nat) : Nat → Nat
  | 0 => 0
  | q + 1 => if v + 1 < q + 1 ∧ p (q + 1) < p v then a_pt p v q else q + 1
def a_ex (p : Nat → Nat) (a b : Nat) : Nat → Nat := fun i => if i = b then p a else if i = a then p b else p i
def a_rv : Nat → Nat → Nat → (Nat → Nat) → Nat → Nat
  | 0, _, _, p => p
  | f + 1, lo, hi, p => if lo < hi then a_rv f (lo + 1) (hi - 1) (a_ex p lo hi) else p
def a_nx (n : Nat) (p : Nat → Nat) : Option (Nat → Nat) := if a_pv p (n - 1) = 0 then none else some (a_rv n (a_pv p (n - 1)) (n - 1) (a_ex p (a_pv p (n - 1) - 1) (a_pt p (a_pv p (n - 1) - 1) (n - 1))))
def a_nb (n : Nat) (l l' : List Nat) : Bool := match a_nx n (x_gt l) with
  | none => false
  | some p => decide (∀ i, i < n → p i = x_gt l' i)
def a_ch (n : Nat) : List (List Nat) → Bool
  | [] => true
  | [l] => (a_nx n (x_gt l)).isNone
  | l :: l' :: r => a_nb n l l' && a_ch n (l' :: r)
theorem a_ch_ok : ∀ n, n ≤ 5 → a_ch n (a_cm n n []) = true := by decide +kernel
theorem a_fm_in {g : Nat → List (List Nat)} {l : List Nat} : ∀ c i k, i ≤ k → k < i + c → l ∈ g k → l ∈ a_fm g i c
  | 0, i, k, h1, h2, _ => absurd h2 (by omega)
  | c + 1, i, k, h1, h2, h => by
    show l ∈ g i ++ a_fm g (i + 1) c
    rw [List.mem_append]
    by_cases e : i = k
    · subst e; exact Or.inl h
    · exact Or.inr (a_fm_in c (i + 1) k (by omega) (by omega) h)
theorem x_gt_app {w : List Nat} {v i : Nat} : x_gt (w ++ [v]) i = if i = w.length then v else x_gt w i := by
  unfold x_gt
  rw [List.getD_eq_getElem?_getD, List.getD_eq_getElem?_getD]
  by_cases e : i < w.length
  · rw [if_neg (by omega), List.getElem?_append_left e]
  · by_cases e2 : i = w.length
    · subst e2
      rw [if_pos rfl, List.getElem?_append_right (Nat.le_refl _), Nat.sub_self]; rfl
    · rw [if_neg e2, List.getElem?_eq_none (by rw [List.length_append]; show w.length + 1 ≤ i; omega), List.getElem?_eq_none (by omega)]
theorem x_gt_mem {w : List Nat} {v : Nat} (h : v ∈ w) : ∃ i, i < w.length ∧ x_gt w i = v := by
  obtain ⟨i, hi, e⟩ := List.getElem_of_mem h
  refine ⟨i, hi, ?_⟩
  unfold x_gt
  rw [List.getD_eq_getElem?_getD, List.getElem?_eq_getElem hi]
  exact e
theorem x_gt_ext {w l : List Nat} (h : l.length = w.length) (h2 : ∀ i, i < w.length → x_gt l i = x_gt w i) : l = w := by
  refine List.ext_getElem h (fun i h3 h4 => ?_)
  have q := h2 i h4
  unfold x_gt at q
  rw [List.getD_eq_getElem?_getD, List.getD_eq_getElem?_getD, List.getElem?_eq_getElem h3, List.getElem?_eq_getElem h4] at q
  exact q
/-- every row is among them -/
theorem a_cm_in {n : Nat} {l : List Nat} (h1 : ∀ i, i < l.length → x_gt l i < n) (h2 : ∀ i, i < l.length → ∀ j, j < l.length → x_gt l i = x_gt l j → i = j) : ∀ d w, l.length = w.length + d → (∀ i, i < w.length → x_gt l i = x_gt w i) → l ∈ a_cm n d w
  | 0, w, h3, h4 => by
    rw [x_gt_ext h3 h4]
    exact List.mem_singleton.mpr rfl
  | d + 1, w, h3, h4 => by
    have h5 : w.contains (x_gt l w.length) = false := by
      cases hc : w.contains (x_gt l w.length) with
      | false => rfl
      | true =>
        obtain ⟨i, hi, e⟩ := x_gt_mem (List.contains_iff_mem.mp hc)
        have := h2 i (by omega) w.length (by omega) (by rw [h4 i hi]; exact e)
        omega
    refine a_fm_in n 0 (x_gt l w.length) (by omega) (by have := h1 w.length (by omega); omega) ?_
    show l ∈ (if w.contains (x_gt l w.length) = true then [] else a_cm n d (w ++ [x_gt l w.length]))
    rw [if_neg (by rw [h5]; decide)]
    refine a_cm_in h1 h2 d _ (by rw [List.length_append]; show l.length = w.length + 1 + d; omega) (fun i hi => ?_)
    rw [List.length_append] at hi
    have hi : i < w.length + 1 := hi
    rw [x_gt_app]
    by_cases e : i = w.length
    · subst e; rw [if_pos rfl]
    · rw [if_neg e]; exact h4 i (by omega)
theorem a_all {n : Nat} {l : List Nat} (h : x_vl n l) : l ∈ a_cm n n [] := by
  obtain ⟨h0, h1, h2⟩ := h
  subst h0
  exact a_cm_in h1 h2 _ [] (by show _ = 0 + _; omega) (fun i hi => absurd hi (by show ¬ i < 0; omega))
/-! a table of values as a list -/
def a_tb (g : Nat → Nat) (n : Nat) : List Nat := (List.range n).map g
theorem a_tb_gt {g : Nat → Nat} {n i : Nat} (hi : i < n) : x_gt (a_tb g n) i = g i := by
  unfold x_gt a_tb
  rw [List.getD_eq_getElem?_getD, List.getElem?_map, List.getElem?_range hi]
  rfl
theorem a_tb_len {g : Nat → Nat} {n : Nat} : (a_tb g n).length = n := by unfold a_tb; rw [List.length_map, List.length_range]
theorem x_ct_lt2 {K K' : Nat → Bool} : ∀ n, (∀ k, k < n → K k = true → K' k = true) → x_ct K n ≤ x_ct K' n ∧ (∀ b, b < n → K b = false → K' b = true → x_ct K n < x_ct K' n)
  | 0, _ => ⟨Nat.le_refl _, fun b hb => absurd hb (by omega)⟩
  | n + 1, h => by
    have q := x_ct_lt2 n (fun k hk => h k (by omega))
    rw [x_ct_s, x_ct_s]
    have hn := h n (by omega)
    refine ⟨?_, fun b hb h1 h2 => ?_⟩
    · by_cases e : K n = true
      · rw [if_pos e, if_pos (hn e)]; have := q.1; omega
      · rw [if_neg e]; have := q.1; omega
    · by_cases e : b = n
      · subst e
        rw [if_neg (by rw [h1]; decide), if_pos h2]; have := q.1; omega
      · have h3 := q.2 b (by omega) h1 h2
        by_cases e : K n = true
        · rw [if_pos e, if_pos (hn e)]; omega
        · rw [if_neg e]; omega
/-- what has no value twice can be sorted -/
theorem a_srt {n : Nat} {f : Nat → Nat} (hf : ∀ i, i < n → ∀ j, j < n → f i = f j → i = j) : ∃ l, x_vl n l ∧ ∀ i j, i < j → j < n → f (x_gt l i) < f (x_gt l j) := by
  have c1 : ∀ a, a < n → ∀ b, b < n → f a < f b → x_ct (fun e => decide (f e < f a)) n < x_ct (fun e => decide (f e < f b)) n := fun a ha b hb h =>
    (x_ct_lt2 n (fun k _ hk => decide_eq_true (by have := of_decide_eq_true hk; omega))).2 a ha (decide_eq_false (by omega)) (decide_eq_true h)
  have c2 : ∀ a, a < n → ∀ b, b < n → x_ct (fun e => decide (f e < f a)) n = x_ct (fun e => decide (f e < f b)) n → a = b := fun a ha b hb h => by
    rcases Nat.lt_trichotomy (f a) (f b) with q | q | q
    · have := c1 a ha b hb q; omega
    · exact hf a ha b hb q
    · have := c1 b hb a ha q; omega
  have c3 : ∀ a, a < n → x_ct (fun e => decide (f e < f a)) n < n := fun a ha => by
    have := (x_ct_lt2 (K := fun e => decide (f e < f a)) (K' := fun _ => true) n (fun _ _ _ => rfl)).2 a ha (decide_eq_false (by omega)) rfl
    rw [x_ct_full n (fun _ _ => rfl)] at this
    exact this
  have c4 : ∀ i, i < n → ∃ a, a < n ∧ x_ct (fun e => decide (f e < f a)) n = i := fun i hi => by
    apply Classical.byContradiction
    intro q
    have := x_pig1 (N := n) (n := n) (p := i) (f := fun a => x_ct (fun e => decide (f e < f a)) n) c3 (fun a b ha hb e => c2 a ha b hb e) hi (fun a ha e => q ⟨a, ha, e⟩)
    omega
  have c5 : ∀ i, ∃ a, i < n → a < n ∧ x_ct (fun e => decide (f e < f a)) n = i := fun i => by
    by_cases hi : i < n
    · obtain ⟨a, h⟩ := c4 i hi
      exact ⟨a, fun _ => h⟩
    · exact ⟨0, fun z => absurd z hi⟩
  obtain ⟨g, hg⟩ : ∃ g : Nat → Nat, ∀ i, i < n → g i < n ∧ x_ct (fun e => decide (f e < f (g i))) n = i := ⟨fun i => Classical.choose (c5 i), fun i hi => Classical.choose_spec (c5 i) hi⟩
  refine ⟨a_tb g n, ⟨a_tb_len, fun i hi => by rw [a_tb_gt hi]; exact (hg i hi).1, fun i hi j hj e => ?_⟩, fun i j hij hj => ?_⟩
  · rw [a_tb_gt hi, a_tb_gt hj] at e
    have a := (hg i hi).2
    have b := (hg j hj).2
    rw [e] at a
    omega
  · have hi : i < n := by omega
    rw [a_tb_gt hi, a_tb_gt hj]
    have a := hg i hi
    have b := hg j hj
    rcases Nat.lt_trichotomy (f (g i)) (f (g j)) with q | q | q
    · exact q
    · have e := hf _ a.1 _ b.1 q
      have a2 := a.2
      rw [e] at a2
      have := b.2
      omega
    · have := c1 _ b.1 _ a.1 q
      rw [a.2, b.2] at this
      omega
/-! the shop with another row -/
def x_pt (X : x_T) (m : Nat) (l : List Nat) : x_T := fun k => if 183 + 5 * m ≤ k ∧ k < 183 + 5 * m + X (179 + m) then x_so X m (x_gt l (k - (183 + 5 * m))) else X k
theorem x_pt_o {X : x_T} {m : Nat} {l : List Nat} {k : Nat} (h : k < 183 + 5 * m ∨ 183 + 5 * m + X (179 + m) ≤ k) : x_pt X m l k = X k := by
  unfold x_pt; rw [if_neg (by omega)]
theorem x_pt_i {X : x_T} {m : Nat} {l : List Nat} {p : Nat} (h : p < X (179 + m)) : x_pt X m l (183 + 5 * m + p) = x_so X m (x_gt l p) := by
  unfold x_pt; rw [if_pos (by omega), show 183 + 5 * m + p - (183 + 5 * m) = p by omega]
theorem x_pt_lo {X : x_T} {m : Nat} {l : List Nat} {k : Nat} (h : k < 183) : x_pt X m l k = X k := x_pt_o (by omega)
theorem x_pt_pr {X : x_T} {m : Nat} {l : List Nat} (hw : x_wf X) (hm : m < 4) (hl : x_vl (X (179 + m)) l) : x_pr X (x_pt X m l) m := by
  obtain ⟨h0, h1, h2⟩ := hl
  refine ⟨fun k hk => x_pt_o hk, fun p hp => ?_, fun p p' hp hp' e => ?_, fun q hq => ?_⟩
  · rw [x_pt_i hp]
    have q := x_so_ok hw hm (h1 p hp)
    have r := x_po_ok hw q.1
    rw [q.2.1] at r
    exact ⟨_, r.1, r.2.symm⟩
  · rw [x_pt_i hp, x_pt_i hp'] at e
    exact h2 p hp p' hp' (x_so_in hw hm (h1 p hp) (h1 p' hp') e)
  · have hod := x_od hw hm hq
    have r := x_so_ct hw hm hod.1 hod.2
    apply Classical.byContradiction
    intro z
    have := x_pig1 (N := X (179 + m)) (n := X (179 + m)) (p := x_ct (x_om X m) (X (183 + 5 * m + q))) (f := x_gt l) h1 (fun a b ha hb e => h2 a ha b hb e) r.1 (fun i hi e => z ⟨i, hi, by rw [x_pt_i hi, e]; exact r.2⟩)
    omega
theorem x_pt_wf {X : x_T} {m : Nat} {l : List Nat} (hw : x_wf X) (hm : m < 4) (hl : x_vl (X (179 + m)) l) : x_wf (x_pt X m l) := x_pr_wf hw hm (x_pt_pr hw hm hl)
theorem x_so_pt {X X' : x_T} {m : Nat} (hw : x_wf X) (e : ∀ k, k < 183 → X' k = X k) : ∀ m' i, x_so X' m' i = x_so X m' i := by
  have hs := x_sz hw
  intro m' i
  unfold x_so
  rw [e 1 (by omega)]
  have h2 : ∀ n, n ≤ 20 → x_sn (x_om X' m') n i = x_sn (x_om X m') n i := by
    intro n
    induction n with
    | zero => intro _; rfl
    | succ n ih =>
      intro hn
      have h3 : x_om X' m' n = x_om X m' n := by unfold x_om; rw [e (62 + n) (by omega)]
      have h4 : x_ct (x_om X' m') n = x_ct (x_om X m') n := x_ct_congr _ (fun k hk => by unfold x_om; rw [e (62 + k) (by omega)])
      show (if _ then _ else _) = (if _ then _ else _)
      rw [h3, h4, ih (by omega)]
  exact h2 _ hs.2
/-- the row that stands is one of them -/
theorem x_row {X : x_T} (hw : x_wf X) {m : Nat} (hm : m < 4) : ∃ l, x_vl (X (179 + m)) l ∧ x_pt X m l = X := by
  have hq : ∀ i, i < X (179 + m) → _ := fun i hi => x_so_ct hw hm (x_od hw hm hi).1 (x_od hw hm hi).2
  refine ⟨a_tb (fun i => x_ct (x_om X m) (X (183 + 5 * m + i))) (X (179 + m)), ⟨a_tb_len, fun i hi => by rw [a_tb_gt hi]; exact (hq i hi).1, fun i hi j hj e => ?_⟩, ?_⟩
  · rw [a_tb_gt hi, a_tb_gt hj] at e
    have a := (hq i hi).2
    have b := (hq j hj).2
    rw [e] at a
    exact x_od1 hw hm hi hj (a.symm.trans b)
  · funext k
    by_cases e : 183 + 5 * m ≤ k ∧ k < 183 + 5 * m + X (179 + m)
    · obtain ⟨p, rfl⟩ : ∃ p, k = 183 + 5 * m + p := ⟨k - (183 + 5 * m), by omega⟩
      rw [x_pt_i (by omega), a_tb_gt (by omega)]
      exact (hq p (by omega)).2
    · exact x_pt_o (by omega)
