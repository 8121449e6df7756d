/-! ===== pure: what the calls keep ===== -/
theorem x_ac_cg {X X' : x_T} (h1 : X' 1 = X 1) (hjp : ∀ o, o < X 1 → x_jp X' o = x_jp X o) (hmp : ∀ o, o < X 1 → x_mp X' n0 o = x_mp X n0 o) (h : x_ac X n0) : x_ac X' n0 := by
  obtain ⟨rk, h⟩ := h
  refine ⟨rk, fun o ho => ?_⟩
  rw [h1] at ho
  exact ⟨fun q hq => (h o ho).1 q (by rw [← hjp o ho]; exact hq), fun q hq => (h o ho).2 q (by rw [← hmp o ho]; exact hq)⟩
/-- other values, the same structure -/
theorem x_gd_eq {X X' : x_T} (hg : x_gd X) (e : ∀ k, k < 2 ∨ (17 ≤ k ∧ k < 82) ∨ (102 ≤ k ∧ k < 142) ∨ 179 ≤ k → X' k = X k) (hj : ∀ j, j < X 0 → X' (2 + j) ≤ 99 ∧ X' (7 + j) ≤ 200 ∧ X' (12 + j) ≤ 9) (hd : ∀ o, o < X 1 → 1 ≤ X' (82 + o) ∧ X' (82 + o) ≤ 30) (hs : ∀ f g, f < 3 → g < 3 → X' (142 + 3 * f + g) ≤ 9) (hb : ∀ m, m < 4 → X' (151 + m) ≤ 3 ∧ ∀ i, i < X' (151 + m) → X' (155 + 3 * m + i) ≤ 400 ∧ 1 ≤ X' (167 + 3 * m + i) ∧ X' (167 + 3 * m + i) ≤ 60) : x_gd X' := by
  obtain ⟨hw, ha⟩ := hg
  have hz := x_sz hw
  have e0 : X' 0 = X 0 := e 0 (by omega)
  have e1 : X' 1 = X 1 := e 1 (by omega)
  have hpo : ∀ o, o < X 1 → x_po X' o = x_po X o := fun o ho => by
    have h := x_op hw ho
    unfold x_po
    rw [e (62 + o) (by omega)]
    exact x_pf_cg (fun p hp => e _ (by omega)) 5 0 (by omega)
  refine ⟨⟨?_, ?_, fun j h1 => ?_, fun j i h1 h2 => ?_, fun o h1 => ?_, fun a b h1 h2 h3 h4 => ?_, fun f g h1 h2 => hs f g h1 h2, fun m h1 => hb m h1, fun m h1 => ?_, fun o h1 => ?_⟩, ?_⟩
  · show X' 0 ≤ 5; rw [e0]; exact hz.1
  · show X' 1 ≤ 20; rw [e1]; exact hz.2
  · have h1 : j < X 0 := by rw [← e0]; exact h1
    have q := hj j h1
    refine ⟨q.1, q.2.1, q.2.2, ?_⟩
    show X' (17 + j) ≤ 4
    rw [e _ (by omega)]; exact (x_jb hw h1).2.2.2.2.2
  · have h1 : j < X 0 := by rw [← e0]; exact h1
    have hjb := x_jb hw h1
    have h2 : i < X (17 + j) := by rw [← e (17 + j) (by omega)]; exact h2
    have hr := x_rt hw h1 h2
    show X' (22 + 4 * j + i) < X' 1 ∧ X' (42 + X' (22 + 4 * j + i)) = j ∧ X' (122 + X' (22 + 4 * j + i)) = i
    rw [e (22 + 4 * j + i) (by omega), e1, e (42 + _) (by omega), e (122 + _) (by omega)]
    exact hr
  · have h1 : o < X 1 := by rw [← e1]; exact h1
    have hp := x_op hw h1
    have hd1 := hd o h1
    show X' (42 + o) < X' 0 ∧ X' (122 + o) < X' (17 + X' (42 + o)) ∧ X' (22 + 4 * X' (42 + o) + X' (122 + o)) = o ∧ X' (62 + o) < 4 ∧ 1 ≤ X' (82 + o) ∧ X' (82 + o) ≤ 30 ∧ X' (102 + o) < 3
    rw [e (42 + o) (by omega), e (122 + o) (by omega), e (17 + _) (by omega), e (22 + 4 * _ + _) (by omega), e (62 + o) (by omega), e (102 + o) (by omega), e0]
    exact ⟨hp.2.2.1, hp.2.2.2.1, hp.2.2.2.2.2.1, hp.2.2.2.2.2.2.1, hd1.1, hd1.2, hp.2.2.2.2.2.2.2.2.2⟩
  · have h1 : a < X 1 := by rw [← e1]; exact h1
    have h2 : b < X 1 := by rw [← e1]; exact h2
    have h3 : X' (42 + a) = X' (42 + b) := h3
    have h4 : X' (62 + a) = X' (62 + b) := h4
    rw [e _ (by omega), e _ (by omega)] at h3 h4
    exact x_uq hw h1 h2 h3 h4
  · show X' (179 + m) ≤ 5 ∧ ∀ p, p < X' (179 + m) → X' (183 + 5 * m + p) < X' 1 ∧ X' (62 + X' (183 + 5 * m + p)) = m ∧ ∀ p', p' < X' (179 + m) → X' (183 + 5 * m + p) = X' (183 + 5 * m + p') → p = p'
    rw [e (179 + m) (by omega), e1]
    refine ⟨(x_mn hw h1).2, fun p hp => ?_⟩
    have hod := x_od hw h1 hp
    rw [e (183 + 5 * m + p) (by omega), e (62 + _) (by omega)]
    exact ⟨hod.1, hod.2, fun p' hp' q => x_od1 hw h1 hp hp' (by rw [e (183 + 5 * m + p') (by omega)] at q; exact q)⟩
  · have h1 : o < X 1 := by rw [← e1]; exact h1
    have hp := x_op hw h1
    obtain ⟨p, p1, p2⟩ := x_pos hw h1
    show ∃ p, p < X' (179 + X' (62 + o)) ∧ X' (183 + 5 * X' (62 + o) + p) = o
    rw [e (62 + o) (by omega), e (179 + _) (by omega)]
    exact ⟨p, p1, by rw [e _ (by omega)]; exact p2⟩
  · refine x_ac_cg e1 (fun o ho => ?_) (fun o ho => ?_) ha
    · have hp := x_op hw ho
      unfold x_jp
      rw [e (122 + o) (by omega), e (42 + o) (by omega), e (22 + 4 * X (42 + o) + (X (122 + o) - 1)) (by omega)]
    · have hp := x_op hw ho
      unfold x_mp
      rw [e (62 + o) (by omega), hpo o ho, e (183 + 5 * X (62 + o) + (x_po X o - 1)) (by omega)]
theorem x_gd_setJob {X : x_T} (hg : x_gd X) {w j v : Nat} (hw2 : w ≤ 2) (hj : j < X 0) (hv : v ≤ x_jl w) : x_gd (va_up X (2 + 5 * w + j) v) := by
  have hw := hg.1
  have hz := x_sz hw
  have hj5 : j < 5 := by omega
  have hv : v ≤ (if w = 0 then 99 else if w = 1 then 200 else 9) := hv
  refine x_gd_eq hg (fun k hk => va_up_n (by omega)) (fun i hi => ?_) (fun o ho => ?_) (fun f g h1 h2 => ?_) (fun m hm => ?_)
  · have q := x_jb hw hi
    rcases (show w = 0 ∨ w = 1 ∨ w = 2 by omega) with rfl | rfl | rfl
    · have hv : v ≤ 99 := hv
      refine ⟨?_, ?_, ?_⟩
      · by_cases e : i = j
        · subst e; rw [show 2 + 5 * 0 + i = 2 + i by omega, va_up_s]; exact hv
        · rw [va_up_n (by omega)]; exact q.2.2.1
      · rw [va_up_n (by omega)]; exact q.2.2.2.1
      · rw [va_up_n (by omega)]; exact q.2.2.2.2.1
    · have hv : v ≤ 200 := hv
      refine ⟨?_, ?_, ?_⟩
      · rw [va_up_n (by omega)]; exact q.2.2.1
      · by_cases e : i = j
        · subst e; rw [show 2 + 5 * 1 + i = 7 + i by omega, va_up_s]; exact hv
        · rw [va_up_n (by omega)]; exact q.2.2.2.1
      · rw [va_up_n (by omega)]; exact q.2.2.2.2.1
    · have hv : v ≤ 9 := hv
      refine ⟨?_, ?_, ?_⟩
      · rw [va_up_n (by omega)]; exact q.2.2.1
      · rw [va_up_n (by omega)]; exact q.2.2.2.1
      · by_cases e : i = j
        · subst e; rw [show 2 + 5 * 2 + i = 12 + i by omega, va_up_s]; exact hv
        · rw [va_up_n (by omega)]; exact q.2.2.2.2.1
  · have q := x_op hw ho
    rw [va_up_n (by omega)]; exact ⟨q.2.2.2.2.2.2.2.1, q.2.2.2.2.2.2.2.2.1⟩
  · rw [va_up_n (by omega)]; exact x_su hw h1 h2
  · have q := x_mn hw hm
    rw [va_up_n (by omega)]
    exact ⟨q.1, fun i hi => by rw [va_up_n (by omega), va_up_n (by omega)]; exact x_br hw hm hi⟩
theorem x_gd_setDu {X : x_T} (hg : x_gd X) {o v : Nat} (ho : o < X 1) (h1 : 1 ≤ v) (h2 : v ≤ 30) : x_gd (va_up X (82 + o) v) := by
  have hw := hg.1
  have hz := x_sz hw
  refine x_gd_eq hg (fun k hk => va_up_n (by omega)) (fun i hi => ?_) (fun o' ho' => ?_) (fun f g h1 h2 => ?_) (fun m hm => ?_)
  · have q := x_jb hw hi
    rw [va_up_n (by omega), va_up_n (by omega), va_up_n (by omega)]; exact ⟨q.2.2.1, q.2.2.2.1, q.2.2.2.2.1⟩
  · have q := x_op hw ho'
    by_cases e : o' = o
    · subst e; rw [va_up_s]; exact ⟨h1, h2⟩
    · rw [va_up_n (by omega)]; exact ⟨q.2.2.2.2.2.2.2.1, q.2.2.2.2.2.2.2.2.1⟩
  · rw [va_up_n (by omega)]; exact x_su hw h1 h2
  · have q := x_mn hw hm
    rw [va_up_n (by omega)]
    exact ⟨q.1, fun i hi => by rw [va_up_n (by omega), va_up_n (by omega)]; exact x_br hw hm hi⟩
theorem x_gd_setSu {X : x_T} (hg : x_gd X) {f g v : Nat} (hf : f < 3) (hg3 : g < 3) (h2 : v ≤ 9) : x_gd (va_up X (142 + 3 * f + g) v) := by
  have hw := hg.1
  have hz := x_sz hw
  refine x_gd_eq hg (fun k hk => va_up_n (by omega)) (fun i hi => ?_) (fun o' ho' => ?_) (fun f' g' k1 k2 => ?_) (fun m hm => ?_)
  · have q := x_jb hw hi
    rw [va_up_n (by omega), va_up_n (by omega), va_up_n (by omega)]; exact ⟨q.2.2.1, q.2.2.2.1, q.2.2.2.2.1⟩
  · have q := x_op hw ho'
    rw [va_up_n (by omega)]; exact ⟨q.2.2.2.2.2.2.2.1, q.2.2.2.2.2.2.2.2.1⟩
  · by_cases e : 142 + 3 * f' + g' = 142 + 3 * f + g
    · rw [e, va_up_s]; exact h2
    · rw [va_up_n e]; exact x_su hw k1 k2
  · have q := x_mn hw hm
    rw [va_up_n (by omega)]
    exact ⟨q.1, fun i hi => by rw [va_up_n (by omega), va_up_n (by omega)]; exact x_br hw hm hi⟩
theorem x_gd_clrBr {X : x_T} (hg : x_gd X) {m : Nat} (hm : m < 4) : x_gd (va_up X (151 + m) 0) := by
  have hw := hg.1
  have hz := x_sz hw
  refine x_gd_eq hg (fun k hk => va_up_n (by omega)) (fun i hi => ?_) (fun o' ho' => ?_) (fun f' g' k1 k2 => ?_) (fun m' hm' => ?_)
  · have q := x_jb hw hi
    rw [va_up_n (by omega), va_up_n (by omega), va_up_n (by omega)]; exact ⟨q.2.2.1, q.2.2.2.1, q.2.2.2.2.1⟩
  · have q := x_op hw ho'
    rw [va_up_n (by omega)]; exact ⟨q.2.2.2.2.2.2.2.1, q.2.2.2.2.2.2.2.2.1⟩
  · rw [va_up_n (by omega)]; exact x_su hw k1 k2
  · have q := x_mn hw hm'
    by_cases e : m' = m
    · subst e; rw [va_up_s]; exact ⟨by omega, fun i hi => absurd hi (by omega)⟩
    · rw [va_up_n (by omega)]
      exact ⟨q.1, fun i hi => by rw [va_up_n (by omega), va_up_n (by omega)]; exact x_br hw hm' hi⟩
theorem x_addBr_at (X : x_T) (m a n k : Nat) : x_addBr X m a n k = if k = 151 + m then X (151 + m) + 1 else if k = 167 + (3 * m + X (151 + m)) then n else if k = 155 + (3 * m + X (151 + m)) then a else X k := rfl
theorem x_gd_addBr {X : x_T} (hg : x_gd X) {m a n : Nat} (hm : m < 4) (ha : a ≤ 400) (h1 : 1 ≤ n) (h2 : n ≤ 60) (h3 : X (151 + m) ≠ 3) : x_gd (x_addBr X m a n) := by
  have hw := hg.1
  have hz := x_sz hw
  have hmn := x_mn hw hm
  refine x_gd_eq hg (fun k hk => ?_) (fun i hi => ?_) (fun o' ho' => ?_) (fun f' g' k1 k2 => ?_) (fun m' hm' => ?_)
  · rw [x_addBr_at, if_neg (by omega), if_neg (by omega), if_neg (by omega)]
  · have q := x_jb hw hi
    rw [x_addBr_at, if_neg (by omega), if_neg (by omega), if_neg (by omega), x_addBr_at, if_neg (by omega), if_neg (by omega), if_neg (by omega), x_addBr_at, if_neg (by omega), if_neg (by omega), if_neg (by omega)]
    exact ⟨q.2.2.1, q.2.2.2.1, q.2.2.2.2.1⟩
  · have q := x_op hw ho'
    rw [x_addBr_at, if_neg (by omega), if_neg (by omega), if_neg (by omega)]; exact ⟨q.2.2.2.2.2.2.2.1, q.2.2.2.2.2.2.2.2.1⟩
  · rw [x_addBr_at, if_neg (by omega), if_neg (by omega), if_neg (by omega)]; exact x_su hw k1 k2
  · have q := x_mn hw hm'
    by_cases e : m' = m
    · subst e
      rw [x_addBr_at, if_pos rfl]
      refine ⟨by omega, fun i hi => ?_⟩
      by_cases e2 : i = X (151 + m')
      · subst e2
        rw [x_addBr_at, if_neg (by omega), if_neg (by omega), if_pos (by omega), x_addBr_at, if_neg (by omega), if_pos (by omega)]
        exact ⟨ha, h1, h2⟩
      · rw [x_addBr_at, if_neg (by omega), if_neg (by omega), if_neg (by omega), x_addBr_at, if_neg (by omega), if_neg (by omega), if_neg (by omega)]
        exact x_br hw hm (by omega)
    · rw [x_addBr_at, if_neg (by omega), if_neg (by omega), if_neg (by omega)]
      exact ⟨q.1, fun i hi => by rw [x_addBr_at, if_neg (by omega), if_neg (by omega), if_neg (by omega), x_addBr_at, if_neg (by omega), if_neg (by omega), if_neg (by omega)]; exact x_br hw hm' hi⟩
theorem x_addJob_at (X : x_T) (r u w k : Nat) : x_addJob X r u w k = if k = 0 then X 0 + 1 else if k = 17 + X 0 then 0 else if k = 12 + X 0 then w else if k = 7 + X 0 then u else if k = 2 + X 0 then r else X k := rfl
theorem x_gd_addJob {X : x_T} (hg : x_gd X) {r u w : Nat} (h5 : X 0 < 5) (hr : r ≤ 99) (hu : u ≤ 200) (hw9 : w ≤ 9) : x_gd (x_addJob X r u w) := by
  obtain ⟨hw, ha⟩ := hg
  have hz := x_sz hw
  have e : ∀ k, (k = 1 ∨ 22 ≤ k) → x_addJob X r u w k = X k := fun k hk => by
    rw [x_addJob_at, if_neg (by omega), if_neg (by omega), if_neg (by omega), if_neg (by omega), if_neg (by omega)]
  have e0 : x_addJob X r u w 0 = X 0 + 1 := by rw [x_addJob_at, if_pos rfl]
  have e1 : x_addJob X r u w 1 = X 1 := e 1 (by omega)
  have el : ∀ j, j < X 0 → x_addJob X r u w (17 + j) = X (17 + j) := fun j hj => by
    rw [x_addJob_at, if_neg (by omega), if_neg (by omega), if_neg (by omega), if_neg (by omega), if_neg (by omega)]
  have en : x_addJob X r u w (17 + X 0) = 0 := by rw [x_addJob_at, if_neg (by omega), if_pos rfl]
  have hpo : ∀ o, o < X 1 → x_po (x_addJob X r u w) o = x_po X o := fun o ho => by
    unfold x_po
    rw [e (62 + o) (by omega)]
    exact x_pf_cg (fun p hp => e _ (by omega)) 5 0 (by omega)
  refine ⟨⟨?_, ?_, fun j h1 => ?_, fun j i h1 h2 => ?_, fun o h1 => ?_, fun a b h1 h2 h3 h4 => ?_, fun f g h1 h2 => ?_, fun m h1 => ?_, fun m h1 => ?_, fun o h1 => ?_⟩, ?_⟩
  · show x_addJob X r u w 0 ≤ 5; rw [e0]; omega
  · show x_addJob X r u w 1 ≤ 20; rw [e1]; exact hz.2
  · have h1 : j < X 0 + 1 := by rw [← e0]; exact h1
    show x_addJob X r u w (2 + j) ≤ 99 ∧ x_addJob X r u w (7 + j) ≤ 200 ∧ x_addJob X r u w (12 + j) ≤ 9 ∧ x_addJob X r u w (17 + j) ≤ 4
    by_cases q : j = X 0
    · subst q
      rw [en, x_addJob_at, if_neg (by omega), if_neg (by omega), if_neg (by omega), if_neg (by omega), if_pos rfl, x_addJob_at, if_neg (by omega), if_neg (by omega), if_neg (by omega), if_pos rfl, x_addJob_at, if_neg (by omega), if_neg (by omega), if_pos rfl]
      exact ⟨hr, hu, hw9, by omega⟩
    · have h2 := x_jb hw (show j < X 0 by omega)
      rw [el j (by omega), x_addJob_at, if_neg (by omega), if_neg (by omega), if_neg (by omega), if_neg (by omega), if_neg (by omega), x_addJob_at, if_neg (by omega), if_neg (by omega), if_neg (by omega), if_neg (by omega), if_neg (by omega), x_addJob_at, if_neg (by omega), if_neg (by omega), if_neg (by omega), if_neg (by omega), if_neg (by omega)]
      exact ⟨h2.2.2.1, h2.2.2.2.1, h2.2.2.2.2.1, h2.2.2.2.2.2⟩
  · have h1 : j < X 0 + 1 := by rw [← e0]; exact h1
    have h2 : i < x_addJob X r u w (17 + j) := h2
    by_cases q : j = X 0
    · subst q; rw [en] at h2; exact absurd h2 (by omega)
    · rw [el j (by omega)] at h2
      have hr := x_rt hw (show j < X 0 by omega) h2
      show x_addJob X r u w (22 + 4 * j + i) < x_addJob X r u w 1 ∧ x_addJob X r u w (42 + x_addJob X r u w (22 + 4 * j + i)) = j ∧ x_addJob X r u w (122 + x_addJob X r u w (22 + 4 * j + i)) = i
      rw [e (22 + 4 * j + i) (by omega), e1, e (42 + _) (by omega), e (122 + _) (by omega)]
      exact hr
  · have h1 : o < X 1 := by rw [← e1]; exact h1
    have hp := x_op hw h1
    show x_addJob X r u w (42 + o) < x_addJob X r u w 0 ∧ x_addJob X r u w (122 + o) < x_addJob X r u w (17 + x_addJob X r u w (42 + o)) ∧ x_addJob X r u w (22 + 4 * x_addJob X r u w (42 + o) + x_addJob X r u w (122 + o)) = o ∧ x_addJob X r u w (62 + o) < 4 ∧ 1 ≤ x_addJob X r u w (82 + o) ∧ x_addJob X r u w (82 + o) ≤ 30 ∧ x_addJob X r u w (102 + o) < 3
    rw [e (42 + o) (by omega), e (122 + o) (by omega), el _ hp.2.2.1, e (22 + 4 * _ + _) (by omega), e (62 + o) (by omega), e (82 + o) (by omega), e (102 + o) (by omega), e0]
    exact ⟨by omega, hp.2.2.2.1, hp.2.2.2.2.2.1, hp.2.2.2.2.2.2.1, hp.2.2.2.2.2.2.2.1, hp.2.2.2.2.2.2.2.2.1, hp.2.2.2.2.2.2.2.2.2⟩
  · have h1 : a < X 1 := by rw [← e1]; exact h1
    have h2 : b < X 1 := by rw [← e1]; exact h2
    have h3 : x_addJob X r u w (42 + a) = x_addJob X r u w (42 + b) := h3
    have h4 : x_addJob X r u w (62 + a) = x_addJob X r u w (62 + b) := h4
    rw [e _ (by omega), e _ (by omega)] at h3 h4
    exact x_uq hw h1 h2 h3 h4
  · show x_addJob X r u w (142 + 3 * f + g) ≤ 9
    rw [e _ (by omega)]; exact x_su hw h1 h2
  · have q := x_mn hw h1
    show x_addJob X r u w (151 + m) ≤ 3 ∧ ∀ i, i < x_addJob X r u w (151 + m) → x_addJob X r u w (155 + 3 * m + i) ≤ 400 ∧ 1 ≤ x_addJob X r u w (167 + 3 * m + i) ∧ x_addJob X r u w (167 + 3 * m + i) ≤ 60
    rw [e (151 + m) (by omega)]
    exact ⟨q.1, fun i hi => by rw [e _ (by omega), e _ (by omega)]; exact x_br hw h1 hi⟩
  · show x_addJob X r u w (179 + m) ≤ 5 ∧ ∀ p, p < x_addJob X r u w (179 + m) → x_addJob X r u w (183 + 5 * m + p) < x_addJob X r u w 1 ∧ x_addJob X r u w (62 + x_addJob X r u w (183 + 5 * m + p)) = m ∧ ∀ p', p' < x_addJob X r u w (179 + m) → x_addJob X r u w (183 + 5 * m + p) = x_addJob X r u w (183 + 5 * m + p') → p = p'
    rw [e (179 + m) (by omega), e1]
    refine ⟨(x_mn hw h1).2, fun p hp => ?_⟩
    have hod := x_od hw h1 hp
    rw [e (183 + 5 * m + p) (by omega), e (62 + _) (by omega)]
    exact ⟨hod.1, hod.2, fun p' hp' q => x_od1 hw h1 hp hp' (by rw [e (183 + 5 * m + p') (by omega)] at q; exact q)⟩
  · have h1 : o < X 1 := by rw [← e1]; exact h1
    have hp := x_op hw h1
    obtain ⟨p, p1, p2⟩ := x_pos hw h1
    show ∃ p, p < x_addJob X r u w (179 + x_addJob X r u w (62 + o)) ∧ x_addJob X r u w (183 + 5 * x_addJob X r u w (62 + o) + p) = o
    rw [e (62 + o) (by omega), e (179 + _) (by omega)]
    exact ⟨p, p1, by rw [e _ (by omega)]; exact p2⟩
  · refine x_ac_cg e1 (fun o ho => ?_) (fun o ho => ?_) ha
    · have hp := x_op hw ho
      unfold x_jp
      rw [e (122 + o) (by omega), e (42 + o) (by omega), e (22 + 4 * X (42 + o) + (X (122 + o) - 1)) (by omega)]
    · have hp := x_op hw ho
      unfold x_mp
      rw [e (62 + o) (by omega), hpo o ho, e (183 + 5 * X (62 + o) + (x_po X o - 1)) (by omega)]
