/-! ===== pure: the best row of a machine ===== -/
theorem x_ps_cg {X X' : x_T} {m d : Nat} (e : ∀ k, k < 183 → X' k = X k) (hm : m < 4) : ∀ n i t, i + n ≤ 3 → x_ps X' m d n i t = x_ps X m d n i t
  | 0, i, t, _ => rfl
  | n + 1, i, t, h => by
    show x_ps X' m d n (i + 1) (x_bs X' m d i t) = x_ps X m d n (i + 1) (x_bs X m d i t)
    rw [x_ps_cg e hm n (i + 1) _ (by omega)]
    congr 1
    unfold x_bs
    rw [e (155 + 3 * m + i) (by omega), e (167 + 3 * m + i) (by omega)]
theorem x_rn_cg {X X' : x_T} {m d b : Nat} (e : ∀ k, k < 183 → X' k = X k) (hm : m < 4) (hb : b ≤ 3) : ∀ n t, x_rn X' m d b n t = x_rn X m d b n t
  | 0, t => rfl
  | n + 1, t => by
    show x_rn X' m d b n (x_ps X' m d b 0 t) = x_rn X m d b n (x_ps X m d b 0 t)
    rw [x_ps_cg e hm b 0 t (by omega), x_rn_cg e hm hb n]
theorem x_fr_cg {X X' : x_T} {m d t : Nat} (hw : x_wf X) (e : ∀ k, k < 183 → X' k = X k) (hm : m < 4) : x_fr X' m d t = x_fr X m d t := by
  unfold x_fr
  rw [e (151 + m) (by omega)]
  exact x_rn_cg e hm (x_mn hw hm).1 _ _
theorem x_jp_cg {X X' : x_T} {o : Nat} (hw : x_wf X) (e : ∀ k, k < 183 → X' k = X k) (ho : o < X 1) : x_jp X' o = x_jp X o := by
  have h := x_op hw ho
  unfold x_jp
  rw [e (122 + o) (by omega), e (42 + o) (by omega), e (22 + 4 * X (42 + o) + (X (122 + o) - 1)) (by omega)]
theorem x_TT_cg {X X' : x_T} {op op' : Nat → Bool} {hk : Option Nat} {hu : Nat} {K : Nat → Bool} {r t rk : Nat → Nat} (hw : x_wf X) (e : ∀ k, k < 183 → X' k = X k) (hmp : ∀ o, o < X 1 → x_mp X' op' o = x_mp X op o) (T : x_TT X op hk hu K r t rk) : x_TT X' op' hk hu K r t rk := by
  intro o ho hK
  rw [e 1 (by omega)] at ho
  have hs := x_sz hw
  have h := x_op hw ho
  obtain ⟨a, b, c, d⟩ := T o ho hK
  have E : ∀ q, q < X 1 → X' (82 + q) = X (82 + q) := fun q hq => e _ (by omega)
  have S : ∀ q, q < X 1 → X' (142 + 3 * X' (102 + q) + X' (102 + o)) = X (142 + 3 * X (102 + q) + X (102 + o)) := fun q hq => by
    have h2 := x_op hw hq
    rw [e (102 + q) (by omega), e (102 + o) (by omega), e _ (by omega)]
  refine ⟨fun q hq => a q (by rw [← x_jp_cg hw e ho]; exact hq), fun q hq => b q (by rw [← hmp o ho]; exact hq), ?_, ?_⟩
  · rw [c]
    unfold x_rd
    rw [x_jp_cg hw e ho, hmp o ho, e (42 + o) (by omega), e (2 + X (42 + o)) (by omega)]
    cases hj : x_jp X o with
    | none =>
      cases hm : x_mp X op o with
      | none => rfl
      | some q => dsimp only; rw [E q (x_mp_lt hw ho hm).1, S q (x_mp_lt hw ho hm).1]
    | some p =>
      cases hm : x_mp X op o with
      | none => dsimp only; rw [E p (x_jp_lt hw ho hj).1]
      | some q => dsimp only; rw [E q (x_mp_lt hw ho hm).1, S q (x_mp_lt hw ho hm).1, E p (x_jp_lt hw ho hj).1]
  · rw [d]
    unfold x_sv
    rw [e (62 + o) (by omega), e (82 + o) (by omega), x_fr_cg hw e h.2.2.2.2.2.2.1]
theorem x_pf_cg {X X' : x_T} {m o : Nat} (e : ∀ p, p < 5 → X' (183 + 5 * m + p) = X (183 + 5 * m + p)) : ∀ n p, p + n ≤ 5 → x_pf X' m o n p = x_pf X m o n p
  | 0, p, _ => rfl
  | n + 1, p, h => by
    show (if _ then _ else _) = (if _ then _ else _)
    rw [e p (by omega), x_pf_cg e n (p + 1) (by omega)]
/-- a row of another machine doesn't count -/
theorem x_mp_ot {X X' : x_T} {op op' : Nat → Bool} {m o : Nat} (hw : x_wf X) (hm : m < 4) (h : x_pr X X' m) (ho : o < X 1) (hne : X (62 + o) ≠ m) (he : op' (X (62 + o)) = op (X (62 + o))) : x_mp X' op' o = x_mp X op o := by
  have hs := x_sz hw
  have h5 := (x_mn hw hm).2
  have h2 := x_op hw ho
  have hpo := x_po_ok hw ho
  have hm5 := (x_mn hw h2.2.2.2.2.2.2.1).2
  have e1 : X' (62 + o) = X (62 + o) := x_pr_lo h (by omega)
  have e2 : x_po X' o = x_po X o := by
    unfold x_po
    rw [e1]
    exact x_pf_cg (fun p hp => x_pr_ot h h5 hne hp) 5 0 (by omega)
  unfold x_mp
  rw [e1, e2, he, x_pr_ot h h5 hne (p := x_po X o - 1) (by omega)]
/-- an open machine's row doesn't count -/
theorem x_mp_op {X X' : x_T} {op : Nat → Bool} {m o : Nat} (hw : x_wf X) (hm : m < 4) (h : x_pr X X' m) (ho : o < X 1) (he : op m = true) : x_mp X' op o = x_mp X op o := by
  have hs := x_sz hw
  by_cases e : X (62 + o) = m
  · unfold x_mp
    rw [x_pr_lo h (by omega : 62 + o < 183), e, if_pos (Or.inl he), if_pos (Or.inl he)]
  · exact x_mp_ot hw hm h ho e rfl
theorem x_mp_eq {X : x_T} {op op' : Nat → Bool} {o : Nat} (he : op' (X (62 + o)) = op (X (62 + o))) : x_mp X op' o = x_mp X op o := by
  unfold x_mp; rw [he]
theorem x_ac_mono {X : x_T} {op op' : Nat → Bool} (h : x_ac X op) (hop : ∀ m, op m = true → op' m = true) : x_ac X op' := by
  obtain ⟨rk, h⟩ := h
  refine ⟨rk, fun o ho => ⟨(h o ho).1, fun q hq => (h o ho).2 q ?_⟩⟩
  unfold x_mp at hq ⊢
  by_cases e : op' (X (62 + o)) = true ∨ x_po X o = 0
  · rw [if_pos e] at hq; cases hq
  · rw [if_neg e] at hq
    rw [if_neg (fun z => e (z.elim (fun z1 => Or.inl (hop _ z1)) Or.inr))]
    exact hq
theorem x_sp_n {X : x_T} {op : Nat → Bool} {hu hu' : Nat} (hw : x_wf X) : x_sp X op none hu = x_sp X op none hu' := by
  obtain ⟨K, r, t, rk, T, M, -⟩ := x_TT_ex (op := op) (hk := none) (hu := hu) hw
  by_cases h : ∀ k, k < X 1 → K k = true
  · rw [x_sp_all hw T M h, x_sp_all hw (x_TT_n T) M h]
  · obtain ⟨k, hk⟩ := Classical.not_forall.mp h
    have h1 : k < X 1 := Classical.byContradiction (fun z => hk (fun q => absurd q z))
    have h2 : K k = false := by cases hK : K k with | false => rfl | true => exact absurd (fun _ => hK) hk
    rw [x_sp_not hw T M h1 h2, x_sp_not hw (x_TT_n T) M h1 h2]
/-- no row is better than none -/
theorem x_fl {X : x_T} {op : Nat → Bool} {m fl v : Nat} {l : List Nat} (hw : x_wf X) (hm : m < 4) (hl : x_vl (X (179 + m)) l) (hop : op m = false) (h1 : x_sp X (va_up op m true) none 0 = some fl) (h2 : x_sp (x_pt X m l) op none 0 = some v) : fl ≤ v := by
  have hpr := x_pt_pr hw hm hl
  have hw2 := x_pr_wf hw hm hpr
  have a1 := x_ac_sp h1
  have a2 := x_ac_sp h2
  rw [x_sp_ac hw a1] at h1
  rw [x_sp_ac hw2 a2] at h2
  cases h1
  cases h2
  obtain ⟨K, rk, T, -, A, -⟩ := x_tb_ok (hk := none) (hu := 0) hw a1
  obtain ⟨K', rk', T', -, A', -⟩ := x_tb_ok (hk := none) (hu := 0) hw2 a2
  have T2 := x_TT_cg (X' := x_pt X m l) (op' := va_up op m true) hw (fun k hk => x_pt_lo hk) (fun o ho => x_mp_op hw hm hpr ho va_up_s) T
  have e1 : x_pt X m l 1 = X 1 := x_pt_lo (by omega)
  rw [e1]
  refine x_mxe_mono _ (fun k hk => ?_)
  have hs := x_sz hw
  rw [x_pt_lo (by omega : 82 + k < 183)]
  have q := (x_TT_le hw2 T2 T' (fun m' hm' => by
    by_cases e : m' = m
    · subst e; exact va_up_s
    · rw [va_up_n e]; exact hm') (fun o z => by cases z) _ k (by rw [e1]; exact hk) (Nat.lt_succ_self _) (A k hk) (A' k (by rw [e1]; exact hk))).2
  omega
/-- there is a row without a cycle -/
theorem x_ex {X : x_T} {op : Nat → Bool} {m : Nat} (hw : x_wf X) (hm : m < 4) (hop : op m = false) (ha : x_ac X (va_up op m true)) : ∃ l, x_vl (X (179 + m)) l ∧ x_ac (x_pt X m l) op := by
  have hs := x_sz hw
  obtain ⟨rk, hrk⟩ := ha
  obtain ⟨l, hl, hsrt⟩ := a_srt (n := X (179 + m)) (f := fun i => 20 * rk (x_so X m i) + x_so X m i) (fun i hi j hj e => by
    have a := (x_so_ok hw hm hi).1
    have b := (x_so_ok hw hm hj).1
    exact x_so_in hw hm hi hj (by omega))
  have hpr := x_pt_pr hw hm hl
  have hw2 := x_pr_wf hw hm hpr
  have e1 : x_pt X m l 1 = X 1 := x_pt_lo (by omega)
  refine ⟨l, hl, fun o => 20 * rk o + o, fun o ho => ⟨fun q hq => ?_, fun q hq => ?_⟩⟩
  · have ho1 : o < X 1 := by rw [← e1]; exact ho
    rw [x_jp_cg hw (fun k hk => x_pt_lo hk) ho1] at hq
    have a := (hrk o ho1).1 q hq
    have b := (x_jp_lt hw ho1 hq).1
    show 20 * rk q + q < 20 * rk o + o
    omega
  · have ho1 : o < X 1 := by rw [← e1]; exact ho
    show 20 * rk q + q < 20 * rk o + o
    by_cases e : X (62 + o) = m
    · have a := x_mp_lt hw2 ho hq
      have b := x_po_ok hw2 ho
      have c := x_po_ok hw2 a.1
      have e3 : x_pt X m l (62 + o) = m := by rw [x_pt_lo (by omega)]; exact e
      have e4 : x_pt X m l (179 + m) = X (179 + m) := x_pt_lo (by omega)
      have h2 := a.2.1
      rw [e3] at h2 b
      rw [h2] at c
      rw [e4] at b c
      have b2 := b.2
      have c2 := c.2
      rw [x_pt_i b.1] at b2
      rw [x_pt_i c.1] at c2
      have h3 := hsrt (x_po (x_pt X m l) q) (x_po (x_pt X m l) o) (by omega) b.1
      have h3 : 20 * rk (x_so X m (x_gt l (x_po (x_pt X m l) q))) + x_so X m (x_gt l (x_po (x_pt X m l) q)) < 20 * rk (x_so X m (x_gt l (x_po (x_pt X m l) o))) + x_so X m (x_gt l (x_po (x_pt X m l) o)) := h3
      rw [b2, c2] at h3
      exact h3
    · rw [x_mp_ot (op := va_up op m true) hw hm hpr ho1 e (by rw [va_up_n e])] at hq
      have a := (hrk o ho1).2 q hq
      have b := (x_mp_lt hw ho1 hq).1
      omega
/-- the first of the least -/
noncomputable def x_fs (X : x_T) (op : Nat → Bool) (m : Nat) (l : List Nat) (b : Option (Nat × List Nat)) : Option (Nat × List Nat) := match x_sp (x_pt X m l) op none 0 with
  | none => b
  | some v => match b with
    | none => some (v, l)
    | some c => if v < c.1 then some (v, l) else some c
noncomputable def x_fd (X : x_T) (op : Nat → Bool) (m : Nat) : List (List Nat) → Option (Nat × List Nat) → Option (Nat × List Nat)
  | [], b => b
  | l :: r, b => x_fd X op m r (x_fs X op m l b)
theorem x_fs_n {X : x_T} {op : Nat → Bool} {m : Nat} {l : List Nat} {b : Option (Nat × List Nat)} (h : x_sp (x_pt X m l) op none 0 = none) : x_fs X op m l b = b := by unfold x_fs; rw [h]
theorem x_fs_f {X : x_T} {op : Nat → Bool} {m v : Nat} {l : List Nat} (h : x_sp (x_pt X m l) op none 0 = some v) : x_fs X op m l none = some (v, l) := by unfold x_fs; rw [h]
theorem x_fs_y {X : x_T} {op : Nat → Bool} {m v : Nat} {l : List Nat} {c : Nat × List Nat} (h : x_sp (x_pt X m l) op none 0 = some v) (h2 : v < c.1) : x_fs X op m l (some c) = some (v, l) := by unfold x_fs; rw [h]; exact if_pos h2
theorem x_fs_k {X : x_T} {op : Nat → Bool} {m v : Nat} {l : List Nat} {c : Nat × List Nat} (h : x_sp (x_pt X m l) op none 0 = some v) (h2 : c.1 ≤ v) : x_fs X op m l (some c) = some c := by unfold x_fs; rw [h]; exact if_neg (by omega)
theorem x_fd_app {X : x_T} {op : Nat → Bool} {m : Nat} : ∀ (r1 r2 : List (List Nat)) (b : Option (Nat × List Nat)), x_fd X op m (r1 ++ r2) b = x_fd X op m r2 (x_fd X op m r1 b)
  | [], _, _ => rfl
  | l :: r, r2, b => x_fd_app r r2 (x_fs X op m l b)
theorem x_fd_ok {X : x_T} {op : Nat → Bool} {m : Nat} {Q : List Nat → Prop} : ∀ (r : List (List Nat)) (b : Option (Nat × List Nat)), (∀ l ∈ r, Q l) → (∀ c, b = some c → x_sp (x_pt X m c.2) op none 0 = some c.1 ∧ Q c.2) → ∀ c, x_fd X op m r b = some c → x_sp (x_pt X m c.2) op none 0 = some c.1 ∧ Q c.2
  | [], b, _, hb, c, h => hb c h
  | l :: r, b, hr, hb, c, h => by
    refine x_fd_ok r (x_fs X op m l b) (fun l' h' => hr l' (List.mem_cons_of_mem _ h')) (fun c h => ?_) c h
    have hl := hr l (List.mem_cons_self)
    cases hv : x_sp (x_pt X m l) op none 0 with
    | none => rw [x_fs_n hv] at h; exact hb c h
    | some v =>
      cases b with
      | none => rw [x_fs_f hv] at h; cases h; exact ⟨hv, hl⟩
      | some c' =>
        by_cases e : v < c'.1
        · rw [x_fs_y hv e] at h; cases h; exact ⟨hv, hl⟩
        · rw [x_fs_k hv (by omega)] at h; exact hb c h
theorem x_fs_s {X : x_T} {op : Nat → Bool} {m : Nat} {l : List Nat} {b : Option (Nat × List Nat)} (h : b ≠ none ∨ x_sp (x_pt X m l) op none 0 ≠ none) : x_fs X op m l b ≠ none := by
  cases hv : x_sp (x_pt X m l) op none 0 with
  | none => rw [x_fs_n hv]; exact h.resolve_right (fun z => z hv)
  | some v =>
    cases b with
    | none => rw [x_fs_f hv]; exact fun z => by cases z
    | some c =>
      by_cases e : v < c.1
      · rw [x_fs_y hv e]; exact fun z => by cases z
      · rw [x_fs_k hv (by omega)]; exact fun z => by cases z
theorem x_fd_ne {X : x_T} {op : Nat → Bool} {m : Nat} : ∀ (r : List (List Nat)) (b : Option (Nat × List Nat)), (b ≠ none ∨ ∃ l ∈ r, x_sp (x_pt X m l) op none 0 ≠ none) → x_fd X op m r b ≠ none
  | [], b, h => h.elim id (fun ⟨l, hl, _⟩ => absurd hl (List.not_mem_nil))
  | l :: r, b, h => by
    refine x_fd_ne r (x_fs X op m l b) ?_
    rcases h with h | ⟨l', h1, h2⟩
    · exact Or.inl (x_fs_s (Or.inl h))
    · rcases List.mem_cons.mp h1 with e | e
      · subst e; exact Or.inl (x_fs_s (Or.inr h2))
      · exact Or.inr ⟨l', e, h2⟩
/-- nothing behind a row as good as no row counts -/
theorem x_fd_fl {X : x_T} {op : Nat → Bool} {m fl : Nat} {c : Nat × List Nat} (hc : c.1 ≤ fl) : ∀ (r : List (List Nat)), (∀ l ∈ r, ∀ v, x_sp (x_pt X m l) op none 0 = some v → fl ≤ v) → x_fd X op m r (some c) = some c
  | [], _ => rfl
  | l :: r, h => by
    show x_fd X op m r (x_fs X op m l (some c)) = some c
    have e : x_fs X op m l (some c) = some c := by
      cases hv : x_sp (x_pt X m l) op none 0 with
      | none => exact x_fs_n hv
      | some v => exact x_fs_k hv (by have := h l (List.mem_cons_self) v hv; omega)
    rw [e]
    exact x_fd_fl hc r (fun l' h' => h l' (List.mem_cons_of_mem _ h'))
noncomputable def x_bo (X : x_T) (op : Nat → Bool) (m : Nat) : Option (Nat × List Nat) := x_fd X op m (a_cm (X (179 + m)) (X (179 + m)) []) none
theorem x_bo_ok {X : x_T} {op : Nat → Bool} {m : Nat} (hw : x_wf X) (hm : m < 4) (hop : op m = false) (ha : x_ac X (va_up op m true)) : ∃ v l, x_bo X op m = some (v, l) ∧ x_vl (X (179 + m)) l ∧ x_sp (x_pt X m l) op none 0 = some v := by
  have h5 := (x_mn hw hm).2
  obtain ⟨l0, h1, h2⟩ := x_ex hw hm hop ha
  have hne : x_bo X op m ≠ none := x_fd_ne _ _ (Or.inr ⟨l0, a_all h1, by rw [x_sp_ac (x_pt_wf hw hm h1) h2]; exact fun z => by cases z⟩)
  cases hb : x_bo X op m with
  | none => exact absurd hb hne
  | some c =>
    have q := x_fd_ok (Q := fun l => x_vl (X (179 + m)) l) _ none (fun l hl => a_vl _ h5 l hl) (fun c z => by cases z) c hb
    exact ⟨c.1, c.2, rfl, q.2, q.1⟩
noncomputable def x_bv (X : x_T) (op : Nat → Bool) (m : Nat) : Nat := match x_bo X op m with
  | none => 0
  | some c => c.1
noncomputable def x_br2 (X : x_T) (op : Nat → Bool) (m : Nat) : List Nat := match x_bo X op m with
  | none => []
  | some c => c.2
/-- the shop with the best row of m -/
noncomputable def x_bX (X : x_T) (op : Nat → Bool) (m : Nat) : x_T := x_pt X m (x_br2 X op m)
/-- at how many places it is another one -/
noncomputable def x_bc2 (X : x_T) (op : Nat → Bool) (m : Nat) : Nat := x_ct (fun p => decide (X (183 + 5 * m + p) ≠ x_so X m (x_gt (x_br2 X op m) p))) (X (179 + m))
theorem x_b_ok {X : x_T} {op : Nat → Bool} {m : Nat} (hw : x_wf X) (hm : m < 4) (hop : op m = false) (ha : x_ac X (va_up op m true)) : x_bo X op m = some (x_bv X op m, x_br2 X op m) ∧ x_vl (X (179 + m)) (x_br2 X op m) ∧ x_wf (x_bX X op m) ∧ x_ac (x_bX X op m) op ∧ x_sp (x_bX X op m) op none 0 = some (x_bv X op m) := by
  obtain ⟨v, l, h1, h2, h3⟩ := x_bo_ok hw hm hop ha
  have e1 : x_bv X op m = v := by unfold x_bv; rw [h1]
  have e2 : x_br2 X op m = l := by unfold x_br2; rw [h1]
  unfold x_bX
  rw [e1, e2]
  exact ⟨h1, h2, x_pt_wf hw hm h2, x_ac_sp h3, h3⟩
theorem x_sp_bd {X : x_T} {op : Nat → Bool} {v : Nat} (hw : x_wf X) (h : x_sp X op none 0 = some v) : v ≤ 1400 := by
  have ha := x_ac_sp h
  rw [x_sp_ac hw ha] at h
  cases h
  exact x_mxe_le _ (fun k hk => by have := (x_ti_bd (hk := none) (hu := 0) hw ha hk).2.1; omega)
