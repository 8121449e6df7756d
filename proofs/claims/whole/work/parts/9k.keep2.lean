/-! ===== pure: an operation more, and what the calls keep of the whole state ===== -/
theorem x_addOp_at (X : x_T) (j m d f k : Nat) : x_addOp X j m d f k = if k = 1 then X 1 + 1 else if k = 179 + m then X (179 + m) + 1 else if k = 183 + 5 * m + X (179 + m) then X 1 else if k = 17 + j then X (17 + j) + 1 else if k = 22 + 4 * j + X (17 + j) then X 1 else if k = 122 + X 1 then X (17 + j) else if k = 102 + X 1 then f else if k = 82 + X 1 then d else if k = 62 + X 1 then m else if k = 42 + X 1 then j else X k := rfl
theorem x_addOp_o {X : x_T} {j m d f k : Nat} (h : k ≠ 1 ∧ k ≠ 179 + m ∧ k ≠ 183 + 5 * m + X (179 + m) ∧ k ≠ 17 + j ∧ k ≠ 22 + 4 * j + X (17 + j) ∧ k ≠ 122 + X 1 ∧ k ≠ 102 + X 1 ∧ k ≠ 82 + X 1 ∧ k ≠ 62 + X 1 ∧ k ≠ 42 + X 1) : x_addOp X j m d f k = X k := by
  rw [x_addOp_at, if_neg h.1, if_neg h.2.1, if_neg h.2.2.1, if_neg h.2.2.2.1, if_neg h.2.2.2.2.1, if_neg h.2.2.2.2.2.1, if_neg h.2.2.2.2.2.2.1, if_neg h.2.2.2.2.2.2.2.1, if_neg h.2.2.2.2.2.2.2.2.1, if_neg h.2.2.2.2.2.2.2.2.2]
theorem x_gd_addOp {X : x_T} (hg : x_gd X) {j m d f : Nat} (hj : j < X 0) (hm : m < 4) (hd1 : 1 ≤ d) (hd2 : d ≤ 30) (hf : f < 3) (hl : X (17 + j) ≠ 4) (hh : x_hm X j m (X (17 + j)) = false) : x_gd (x_addOp X j m d f) := by
  obtain ⟨hw, ha⟩ := hg
  have hz := x_sz hw
  have hjb := x_jb hw hj
  have hl4 : X (17 + j) < 4 := by omega
  obtain ⟨hN, hn⟩ := x_room hw hj hm hl4 hh
  obtain ⟨Y, hY⟩ : ∃ Y, Y = x_addOp X j m d f := ⟨_, rfl⟩
  rw [← hY]
  have eo : ∀ k, (k ≠ 1 ∧ k ≠ 179 + m ∧ k ≠ 183 + 5 * m + X (179 + m) ∧ k ≠ 17 + j ∧ k ≠ 22 + 4 * j + X (17 + j) ∧ k ≠ 122 + X 1 ∧ k ≠ 102 + X 1 ∧ k ≠ 82 + X 1 ∧ k ≠ 62 + X 1 ∧ k ≠ 42 + X 1) → Y k = X k := fun k h => by rw [hY]; exact x_addOp_o h
  have e0 : Y 0 = X 0 := eo 0 (by omega)
  have e1 : Y 1 = X 1 + 1 := by rw [hY, x_addOp_at, if_pos rfl]
  have e179 : Y (179 + m) = X (179 + m) + 1 := by rw [hY, x_addOp_at, if_neg (by omega), if_pos rfl]
  have e183 : Y (183 + 5 * m + X (179 + m)) = X 1 := by rw [hY, x_addOp_at, if_neg (by omega), if_neg (by omega), if_pos rfl]
  have e17 : Y (17 + j) = X (17 + j) + 1 := by rw [hY, x_addOp_at, if_neg (by omega), if_neg (by omega), if_neg (by omega), if_pos rfl]
  have e22 : Y (22 + 4 * j + X (17 + j)) = X 1 := by rw [hY, x_addOp_at, if_neg (by omega), if_neg (by omega), if_neg (by omega), if_neg (by omega), if_pos rfl]
  have e122 : Y (122 + X 1) = X (17 + j) := by rw [hY, x_addOp_at, if_neg (by omega), if_neg (by omega), if_neg (by omega), if_neg (by omega), if_neg (by omega), if_pos rfl]
  have e102 : Y (102 + X 1) = f := by rw [hY, x_addOp_at, if_neg (by omega), if_neg (by omega), if_neg (by omega), if_neg (by omega), if_neg (by omega), if_neg (by omega), if_pos rfl]
  have e82 : Y (82 + X 1) = d := by rw [hY, x_addOp_at, if_neg (by omega), if_neg (by omega), if_neg (by omega), if_neg (by omega), if_neg (by omega), if_neg (by omega), if_neg (by omega), if_pos rfl]
  have e62 : Y (62 + X 1) = m := by rw [hY, x_addOp_at, if_neg (by omega), if_neg (by omega), if_neg (by omega), if_neg (by omega), if_neg (by omega), if_neg (by omega), if_neg (by omega), if_neg (by omega), if_pos rfl]
  have e42 : Y (42 + X 1) = j := by rw [hY, x_addOp_at, if_neg (by omega), if_neg (by omega), if_neg (by omega), if_neg (by omega), if_neg (by omega), if_neg (by omega), if_neg (by omega), if_neg (by omega), if_neg (by omega), if_pos rfl]
  have o42 : ∀ o, o < X 1 → Y (42 + o) = X (42 + o) := fun o ho => eo _ (by omega)
  have o62 : ∀ o, o < X 1 → Y (62 + o) = X (62 + o) := fun o ho => eo _ (by omega)
  have o122 : ∀ o, o < X 1 → Y (122 + o) = X (122 + o) := fun o ho => eo _ (by omega)
  have ol : ∀ j', j' < X 0 → j' ≠ j → Y (17 + j') = X (17 + j') := fun j' h1 h2 => eo _ (by omega)
  have ort : ∀ j' i, j' < X 0 → i < X (17 + j') → Y (22 + 4 * j' + i) = X (22 + 4 * j' + i) := fun j' i h1 h2 => by
    have q := x_jb hw h1
    by_cases e : j' = j
    · subst e; exact eo _ (by omega)
    · exact eo _ (by omega)
  have oor : ∀ m' p, m' < 4 → p < X (179 + m') → Y (183 + 5 * m' + p) = X (183 + 5 * m' + p) := fun m' p h1 h2 => by
    have q := x_mn hw h1
    by_cases e : m' = m
    · subst e; exact eo _ (by omega)
    · exact eo _ (by omega)
  have hno : ∀ b, b < X 1 → X (42 + b) = j → X (62 + b) ≠ m := fun b hb h1 h2 => by
    have q := x_op hw hb
    rw [h1] at q
    have : x_hm X j m (X (17 + j)) = true := (x_hm_iff _).mpr ⟨X (122 + b), q.2.2.2.1, by rw [q.2.2.2.2.2.1]; exact h2⟩
    rw [hh] at this
    cases this
  have hw2 : x_wf Y := by
    refine ⟨?_, ?_, fun j' h1 => ?_, fun j' i h1 h2 => ?_, fun o h1 => ?_, fun a b h1 h2 h3 h4 => ?_, fun x y h1 h2 => ?_, fun m' h1 => ?_, fun m' h1 => ?_, fun o h1 => ?_⟩
    · show Y 0 ≤ 5; rw [e0]; exact hz.1
    · show Y 1 ≤ 20; rw [e1]; omega
    · have h1 : j' < X 0 := by rw [← e0]; exact h1
      have q := x_jb hw h1
      show Y (2 + j') ≤ 99 ∧ Y (7 + j') ≤ 200 ∧ Y (12 + j') ≤ 9 ∧ Y (17 + j') ≤ 4
      rw [eo (2 + j') (by omega), eo (7 + j') (by omega), eo (12 + j') (by omega)]
      refine ⟨q.2.2.1, q.2.2.2.1, q.2.2.2.2.1, ?_⟩
      by_cases e : j' = j
      · subst e; rw [e17]; omega
      · rw [ol j' h1 e]; exact q.2.2.2.2.2
    · have h1 : j' < X 0 := by rw [← e0]; exact h1
      have h2 : i < Y (17 + j') := h2
      show Y (22 + 4 * j' + i) < Y 1 ∧ Y (42 + Y (22 + 4 * j' + i)) = j' ∧ Y (122 + Y (22 + 4 * j' + i)) = i
      by_cases e : j' = j ∧ i = X (17 + j)
      · obtain ⟨rfl, rfl⟩ := e
        rw [e22, e1, e42, e122]
        exact ⟨by omega, rfl, rfl⟩
      · have h3 : i < X (17 + j') := by
          by_cases q : j' = j
          · subst q; rw [e17] at h2; omega
          · rw [ol j' h1 q] at h2; exact h2
        have r := x_rt hw h1 h3
        rw [ort j' i h1 h3, e1, o42 _ r.1, o122 _ r.1]
        exact ⟨by omega, r.2⟩
    · have h1 : o < X 1 + 1 := by rw [← e1]; exact h1
      show Y (42 + o) < Y 0 ∧ Y (122 + o) < Y (17 + Y (42 + o)) ∧ Y (22 + 4 * Y (42 + o) + Y (122 + o)) = o ∧ Y (62 + o) < 4 ∧ 1 ≤ Y (82 + o) ∧ Y (82 + o) ≤ 30 ∧ Y (102 + o) < 3
      by_cases e : o = X 1
      · subst e
        rw [e42, e0, e122, e17, e22, e62, e82, e102]
        exact ⟨hj, by omega, rfl, hm, hd1, hd2, hf⟩
      · have h2 : o < X 1 := by omega
        have q := x_op hw h2
        rw [o42 o h2, e0, o122 o h2, o62 o h2, eo (82 + o) (by omega), eo (102 + o) (by omega), ort _ _ q.2.2.1 q.2.2.2.1]
        refine ⟨q.2.2.1, ?_, q.2.2.2.2.2.1, q.2.2.2.2.2.2.1, q.2.2.2.2.2.2.2.1, q.2.2.2.2.2.2.2.2.1, q.2.2.2.2.2.2.2.2.2⟩
        by_cases e2 : X (42 + o) = j
        · have q2 := q.2.2.2.1; rw [e2] at q2 ⊢; rw [e17]; omega
        · rw [ol _ q.2.2.1 e2]; exact q.2.2.2.1
    · have h1 : a < X 1 + 1 := by rw [← e1]; exact h1
      have h2 : b < X 1 + 1 := by rw [← e1]; exact h2
      have h3 : Y (42 + a) = Y (42 + b) := h3
      have h4 : Y (62 + a) = Y (62 + b) := h4
      by_cases ea : a = X 1
      · by_cases eb : b = X 1
        · omega
        · subst ea
          have hb : b < X 1 := by omega
          rw [e42, o42 b hb] at h3
          rw [e62, o62 b hb] at h4
          exact absurd h4.symm (hno b hb h3.symm)
      · have ha : a < X 1 := by omega
        by_cases eb : b = X 1
        · subst eb
          rw [e42, o42 a ha] at h3
          rw [e62, o62 a ha] at h4
          exact absurd h4 (hno a ha h3)
        · have hb : b < X 1 := by omega
          rw [o42 a ha, o42 b hb] at h3
          rw [o62 a ha, o62 b hb] at h4
          exact x_uq hw ha hb h3 h4
    · show Y (142 + 3 * x + y) ≤ 9
      rw [eo _ (by omega)]; exact x_su hw h1 h2
    · have q := x_mn hw h1
      show Y (151 + m') ≤ 3 ∧ ∀ i, i < Y (151 + m') → Y (155 + 3 * m' + i) ≤ 400 ∧ 1 ≤ Y (167 + 3 * m' + i) ∧ Y (167 + 3 * m' + i) ≤ 60
      rw [eo (151 + m') (by omega)]
      exact ⟨q.1, fun i hi => by rw [eo _ (by omega), eo _ (by omega)]; exact x_br hw h1 hi⟩
    · have q := x_mn hw h1
      show Y (179 + m') ≤ 5 ∧ ∀ p, p < Y (179 + m') → Y (183 + 5 * m' + p) < Y 1 ∧ Y (62 + Y (183 + 5 * m' + p)) = m' ∧ ∀ p', p' < Y (179 + m') → Y (183 + 5 * m' + p) = Y (183 + 5 * m' + p') → p = p'
      by_cases e : m' = m
      · subst e
        rw [e179, e1]
        refine ⟨by omega, fun p hp => ?_⟩
        by_cases ep : p = X (179 + m')
        · subst ep
          rw [e183, e62]
          refine ⟨by omega, rfl, fun p' hp' z => ?_⟩
          by_cases ep' : p' = X (179 + m')
          · exact ep'.symm
          · have r := x_od hw h1 (p := p') (by omega)
            rw [oor m' p' h1 (by omega)] at z
            omega
        · have r := x_od hw h1 (p := p) (by omega)
          rw [oor m' p h1 (by omega), o62 _ r.1]
          refine ⟨by omega, r.2, fun p' hp' z => ?_⟩
          by_cases ep' : p' = X (179 + m')
          · subst ep'; rw [e183] at z; omega
          · rw [oor m' p' h1 (by omega)] at z
            exact x_od1 hw h1 (by omega) (by omega) z
      · rw [eo (179 + m') (by omega), e1]
        refine ⟨q.2, fun p hp => ?_⟩
        have r := x_od hw h1 hp
        rw [oor m' p h1 hp, o62 _ r.1]
        refine ⟨by omega, r.2, fun p' hp' z => ?_⟩
        rw [oor m' p' h1 hp'] at z
        exact x_od1 hw h1 hp hp' z
    · have h1 : o < X 1 + 1 := by rw [← e1]; exact h1
      show ∃ p, p < Y (179 + Y (62 + o)) ∧ Y (183 + 5 * Y (62 + o) + p) = o
      by_cases e : o = X 1
      · subst e
        rw [e62, e179]
        exact ⟨X (179 + m), by omega, e183⟩
      · have h2 : o < X 1 := by omega
        obtain ⟨p, p1, p2⟩ := x_pos hw h2
        have q := x_op hw h2
        rw [o62 o h2]
        refine ⟨p, ?_, by rw [oor _ p q.2.2.2.2.2.2.1 p1]; exact p2⟩
        by_cases e2 : X (62 + o) = m
        · rw [e2] at p1 ⊢; rw [e179]; omega
        · rw [eo (179 + X (62 + o)) (by omega)]; exact p1
  refine ⟨hw2, ?_⟩
  obtain ⟨rk, hr⟩ := ha
  have hpo : ∀ o, o < X 1 → x_po Y o = x_po X o := fun o ho => by
    have q := x_op hw ho
    have r := x_po_ok hw ho
    have h1 := x_po_eq hw2 q.2.2.2.2.2.2.1 (p := x_po X o) (by
      by_cases e2 : X (62 + o) = m
      · rw [e2] at r ⊢; rw [e179]; omega
      · rw [eo (179 + X (62 + o)) (by omega)]; exact r.1)
    rw [oor _ _ q.2.2.2.2.2.2.1 r.1, r.2] at h1
    exact h1
  refine ⟨fun o => if o = X 1 then 1 + x_mxe rk (X 1) else rk o, fun o ho => ?_⟩
  rw [e1] at ho
  by_cases e : o = X 1
  · subst e
    refine ⟨fun q hq => ?_, fun q hq => ?_⟩
    · have h1 := (x_jp_lt hw2 (by rw [e1]; omega) hq)
      have h2 : q < X 1 := by
        have h3 := h1.2.2.2
        rw [e42, e122] at h3
        have h4 : 0 < X (17 + j) := by
          have h5 := h1.2.2.1
          rw [e122] at h5
          omega
        rw [ort j (X (17 + j) - 1) hj (by omega)] at h3
        rw [h3]
        exact (x_rt hw hj (by omega)).1
      show (if q = X 1 then _ else _) < (if X 1 = X 1 then _ else _)
      rw [if_neg (by omega), if_pos rfl]
      have := x_mxe_ge (e := rk) (X 1) q h2
      omega
    · have h1 := (x_mp_lt hw2 (by rw [e1]; omega) hq)
      have h2 : q ≠ X 1 := fun z => by
        have := h1.2.2.1
        rw [z] at this
        omega
      have h3 := h1.1
      rw [e1] at h3
      show (if q = X 1 then _ else _) < (if X 1 = X 1 then _ else _)
      rw [if_neg h2, if_pos rfl]
      have := x_mxe_ge (e := rk) (X 1) q (by omega)
      omega
  · have h2 : o < X 1 := by omega
    have q9 := x_op hw h2
    have r9 := x_po_ok hw h2
    refine ⟨fun q hq => ?_, fun q hq => ?_⟩
    · have h3 : x_jp X o = some q := by
        rw [← hq]
        unfold x_jp
        rw [o122 o h2, o42 o h2]
        by_cases z : X (122 + o) = 0
        · rw [if_pos z, if_pos z]
        · rw [if_neg z, if_neg z, ort _ _ q9.2.2.1 (by omega)]
      have h4 := (hr o h2).1 q h3
      have h5 := (x_jp_lt hw h2 h3).1
      show (if q = X 1 then _ else _) < (if o = X 1 then _ else _)
      rw [if_neg (by omega), if_neg e]
      exact h4
    · have h3 : x_mp X n0 o = some q := by
        rw [← hq]
        unfold x_mp
        rw [o62 o h2, hpo o h2]
        by_cases z : n0 (X (62 + o)) = true ∨ x_po X o = 0
        · rw [if_pos z, if_pos z]
        · rw [if_neg z, if_neg z, oor _ _ q9.2.2.2.2.2.2.1 (by omega)]
      have h4 := (hr o h2).2 q h3
      have h5 := (x_mp_lt hw h2 h3).1
      show (if q = X 1 then _ else _) < (if o = X 1 then _ else _)
      rw [if_neg (by omega), if_neg e]
      exact h4
