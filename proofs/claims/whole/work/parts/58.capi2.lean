/-! ===== the class's first calls ===== -/
/-- what the class's lasting rest reads is as it was -/
def c_eq (s s1 : s_T) : Prop := (∀ k, k = 0 ∨ (42 ≤ k ∧ k < 83) ∨ k = 129 ∨ k = 137 ∨ k = 167 ∨ k = 206 ∨ k = 207 ∨ k = 210 ∨ k = 211 ∨ k = 150 ∨ k = 151 → s1 k = s k) ∧ s1 161 0 = s 161 0 ∧ (∀ h, h = 124 ∨ h = 132 ∨ h = 152 ∨ h = 162 → s1 h 9 = s h 9 ∧ s1 h 10 = s h 10)
theorem c_eq_rf {s : s_T} : c_eq s s := ⟨fun _ _ => rfl, rfl, fun _ _ => ⟨rfl, rfl⟩⟩
theorem c_eq_tr {s s1 s2 : s_T} (h1 : c_eq s s1) (h2 : c_eq s1 s2) : c_eq s s2 := ⟨fun k hk => (h2.1 k hk).trans (h1.1 k hk), h2.2.1.trans h1.2.1, fun h hh => ⟨((h2.2.2 h hh).1).trans (h1.2.2 h hh).1, ((h2.2.2 h hh).2).trans (h1.2.2 h hh).2⟩⟩
theorem c_eq_fr {lo hi : Nat} {s s1 : s_T} (h : s_fr lo hi s s1) (hb : (1 ≤ lo ∧ hi ≤ 42) ∨ (83 ≤ lo ∧ hi ≤ 124) ∨ (138 ≤ lo ∧ hi ≤ 150) ∨ (170 ≤ lo ∧ hi ≤ 206)) : c_eq s s1 := ⟨fun k hk => h k (by omega), by rw [h 161 (by omega)], fun q hq => by rw [h q (by omega)]; exact ⟨rfl, rfl⟩⟩
theorem c_Z_eq {z : z_T} {X : x_T} {s s1 : s_T} (h : c_Z z s) (hX : c_R X s1 1) (e : c_eq s s1) (hJ : z 2 0 = 1 → z 1 0 ≤ 5) : c_Z (va_up z 0 X) s1 := by
  obtain ⟨a1, a2, a3, a4, a5, a6, a7, a8, a9, a10, a11, a12⟩ := h
  obtain ⟨e1, e2, e3⟩ := e
  refine ⟨hX, fun q => ?_, ?_, ?_, ?_, ?_, ?_, ?_, ?_, ?_, ?_, ?_⟩
  · obtain ⟨⟨b1, b2⟩, b, c, d, e, f⟩ := a2 q
    have r : ∀ k, 42 ≤ k → k < 42 + 41 → s1 k = s k := fun k h1 h2 => e1 k (by omega)
    have hJ := hJ q
    refine ⟨⟨by rw [r 42 (by omega) (by omega)]; exact b1, by rw [r 42 (by omega) (by omega)]; exact b2⟩, fun j hj => ?_, fun k hk => ?_, fun x y hx hy => ?_, fun m hm => ?_, fun m hm => ?_⟩
    · have hj5 : j < 5 := by have : j < z 1 0 := hj; omega
      rw [r (42 + 2 + j) (by omega) (by omega), r (42 + 7) (by omega) (by omega), r (42 + 9 + j) (by omega) (by omega)]; exact b j hj
    · rw [r (42 + 14) (by omega) (by omega), r (42 + 15) (by omega) (by omega), r (42 + 16) (by omega) (by omega), r (42 + 17) (by omega) (by omega), r (42 + 18) (by omega) (by omega)]; exact c k hk
    · rw [r (42 + 20 + x) (by omega) (by omega)]; exact d x y hx hy
    · rw [r (42 + 23) (by omega) (by omega), r (42 + 25 + m) (by omega) (by omega), r (42 + 30 + m) (by omega) (by omega)]; exact e m hm
    · rw [r (42 + 35) (by omega) (by omega), r (42 + 37 + m) (by omega) (by omega)]; exact f m hm
  · rw [e1 0 (by omega)]; exact a3
  · intro q hq
    obtain ⟨c1, c2, hu, c3, c4⟩ := a4 q hq
    rw [e1 (q + 5) (by omega), (e3 q (by omega)).1]
    exact ⟨c1, c2, hu, c3, by rw [(e3 q (by omega)).2]; exact c4⟩
  · obtain ⟨c2, hu, c3, c4⟩ := a5
    exact ⟨by rw [(e3 152 (by omega)).1]; exact c2, hu, c3, by rw [(e3 152 (by omega)).2]; exact c4⟩
  · rw [e1 206 (by omega)]; exact a6
  · intro k hk; rw [e1 207 (by omega)]; exact a7 k hk
  · rw [e1 210 (by omega)]; exact a8
  · intro k hk; rw [e1 211 (by omega)]; exact a9 k hk
  · rw [e1 150 (by omega)]; exact a10
  · intro hk k hk2; rw [e1 151 (by omega)]; exact a11 hk k hk2
  · rw [e2]; exact a12
theorem va_up_id {z : z_T} : va_up z 0 (z 0) = z := by
  funext k
  by_cases e : k = 0
  · subst e; rw [va_up_s]
  · rw [va_up_n e]
theorem c_P_e {es : List String} {a : a_T} {z : z_T} {E : String} (c : Nat) {s s1 : s_T} (e : a = (c, 0, z)) (hc : c ≠ 0) (hE : es[c - 1]? = some E) (hZ : c_Z z s1) (hf : s_fr 0 212 s s1) : c_P es a s (.inr E) s1 := c_P_x e hc hE hZ hf
theorem c_P_s {es : List String} {a : a_T} {z : z_T} {s s1 : s_T} {y : Int32} (e : a = (0, y, z)) (hZ : c_Z z s1) (hf : s_fr 0 212 s s1) : c_P es a s (.inl (some (.int y))) s1 := c_P_i e rfl rfl hZ hf
theorem c_P_n {es : List String} {a : a_T} {z : z_T} {X : x_T} {s s1 : s_T} {y : Int32} (e : a = (0, y, va_up z 0 X)) (hZ : c_Z (va_up z 0 X) s1) (hf : s_fr 0 212 s s1) : c_P es a s (.inl (some (.int y))) s1 := c_P_i e rfl rfl hZ hf
theorem z_J {z : z_T} (hz : z_wf z) : z 2 0 = 1 → z 1 0 ≤ 5 := fun q => (x_sz (hz.2.1 q).1).1
set_option maxHeartbeats 1000000 in
theorem c_R_setJob {X : x_T} {s s1 : s_T} {o j w v : Nat} (hC : c_R X s o) (hw : x_wf X) (hj : j < X 0) (hk : w < 3) (hp : ∀ a9 b9, s1 a9 b9 = if a9 = o + 2 + j ∧ b9 = w then nI v else s a9 b9) : c_R (va_up X (2 + 5 * w + j) v) s1 o := by
  have hX : ∀ k9, (va_up X (2 + 5 * w + j) v) k9 = if k9 = 2 + 5 * w + j then v else X k9 := fun k9 => rfl
  have hs := x_sz hw
  refine ⟨⟨?_, ?_⟩, fun j9 hj9 => ?_, fun k9 hk9 => ?_, fun f9 g9 hf9 hg9 => ?_, fun m9 hm9 => ?_, fun m9 hm9 => ?_⟩
  · rw [hp, hX]
    (repeat first | rw [if_neg (by omega)] | rw [if_pos (by omega)])
    all_goals first | rfl | (exact cl_jobs hC) | (congr 1; omega)
  · rw [hp, hX]
    (repeat first | rw [if_neg (by omega)] | rw [if_pos (by omega)])
    all_goals first | rfl | (exact cl_ops hC) | (congr 1; omega)
  · rw [hX] at hj9
    (repeat first | rw [if_neg (by omega)] at hj9 | rw [if_pos (by omega)] at hj9)
    have hjb : j9 < X 0 → X (17 + j9) ≤ 4 := fun q => (x_jb hw q).2.2.2.2.2
    refine ⟨?_, ?_, ?_, ?_, fun i9 hi9 => ?_⟩
    · rw [hp, hX]
      by_cases e2 : j9 = j
      · by_cases e1 : w = 0
        · (repeat first | rw [if_neg (by omega)] | rw [if_pos (by omega)])
          all_goals first | rfl | (exact cl_rel hC (by omega)) | (congr 1; omega)
        · (repeat first | rw [if_neg (by omega)] | rw [if_pos (by omega)])
          all_goals first | rfl | (exact cl_rel hC (by omega)) | (congr 1; omega)
      · by_cases e1 : w = 0
        · (repeat first | rw [if_neg (by omega)] | rw [if_pos (by omega)])
          all_goals first | rfl | (exact cl_rel hC (by omega)) | (congr 1; omega)
        · (repeat first | rw [if_neg (by omega)] | rw [if_pos (by omega)])
          all_goals first | rfl | (exact cl_rel hC (by omega)) | (congr 1; omega)
    · rw [hp, hX]
      by_cases e2 : j9 = j
      · by_cases e1 : w = 1
        · (repeat first | rw [if_neg (by omega)] | rw [if_pos (by omega)])
          all_goals first | rfl | (exact cl_due hC (by omega)) | (congr 1; omega)
        · (repeat first | rw [if_neg (by omega)] | rw [if_pos (by omega)])
          all_goals first | rfl | (exact cl_due hC (by omega)) | (congr 1; omega)
      · by_cases e1 : w = 1
        · (repeat first | rw [if_neg (by omega)] | rw [if_pos (by omega)])
          all_goals first | rfl | (exact cl_due hC (by omega)) | (congr 1; omega)
        · (repeat first | rw [if_neg (by omega)] | rw [if_pos (by omega)])
          all_goals first | rfl | (exact cl_due hC (by omega)) | (congr 1; omega)
    · rw [hp, hX]
      by_cases e2 : j9 = j
      · by_cases e1 : w = 2
        · (repeat first | rw [if_neg (by omega)] | rw [if_pos (by omega)])
          all_goals first | rfl | (exact cl_wt hC (by omega)) | (congr 1; omega)
        · (repeat first | rw [if_neg (by omega)] | rw [if_pos (by omega)])
          all_goals first | rfl | (exact cl_wt hC (by omega)) | (congr 1; omega)
      · by_cases e1 : w = 2
        · (repeat first | rw [if_neg (by omega)] | rw [if_pos (by omega)])
          all_goals first | rfl | (exact cl_wt hC (by omega)) | (congr 1; omega)
        · (repeat first | rw [if_neg (by omega)] | rw [if_pos (by omega)])
          all_goals first | rfl | (exact cl_wt hC (by omega)) | (congr 1; omega)
    · rw [hp, hX]
      (repeat first | rw [if_neg (by omega)] | rw [if_pos (by omega)])
      all_goals first | rfl | (exact cl_len hC (by omega)) | (congr 1; omega)
    · rw [hX] at hi9
      (repeat first | rw [if_neg (by omega)] at hi9 | rw [if_pos (by omega)] at hi9)
      rw [hp, hX]
      (repeat first | rw [if_neg (by omega)] | rw [if_pos (by omega)])
      all_goals first | rfl | (exact cl_rt hC (by omega) (by omega)) | (congr 1; omega)
  · rw [hX] at hk9
    (repeat first | rw [if_neg (by omega)] at hk9 | rw [if_pos (by omega)] at hk9)
    refine ⟨?_, ?_, ?_, ?_, ?_⟩
    · rw [hp, hX]
      (repeat first | rw [if_neg (by omega)] | rw [if_pos (by omega)])
      all_goals first | rfl | (exact cl_job hC (by omega)) | (congr 1; omega)
    · rw [hp, hX]
      (repeat first | rw [if_neg (by omega)] | rw [if_pos (by omega)])
      all_goals first | rfl | (exact cl_mc hC (by omega)) | (congr 1; omega)
    · rw [hp, hX]
      (repeat first | rw [if_neg (by omega)] | rw [if_pos (by omega)])
      all_goals first | rfl | (exact cl_du hC (by omega)) | (congr 1; omega)
    · rw [hp, hX]
      (repeat first | rw [if_neg (by omega)] | rw [if_pos (by omega)])
      all_goals first | rfl | (exact cl_fa hC (by omega)) | (congr 1; omega)
    · rw [hp, hX]
      (repeat first | rw [if_neg (by omega)] | rw [if_pos (by omega)])
      all_goals first | rfl | (exact cl_st hC (by omega)) | (congr 1; omega)
  · rw [hp, hX]
    (repeat first | rw [if_neg (by omega)] | rw [if_pos (by omega)])
    all_goals first | rfl | (exact cl_su hC (by omega) (by omega)) | (congr 1; omega)
  · have hmn := x_mn hw hm9
    refine ⟨?_, fun i9 hi9 => ?_⟩
    · rw [hp, hX]
      (repeat first | rw [if_neg (by omega)] | rw [if_pos (by omega)])
      all_goals first | rfl | (exact cl_bn hC (by omega)) | (congr 1; omega)
    · rw [hX] at hi9
      (repeat first | rw [if_neg (by omega)] at hi9 | rw [if_pos (by omega)] at hi9)
      refine ⟨?_, ?_⟩
      · rw [hp, hX]
        (repeat first | rw [if_neg (by omega)] | rw [if_pos (by omega)])
        all_goals first | rfl | (exact cl_bf hC (by omega) (by omega)) | (congr 1; omega)
      · rw [hp, hX, hX]
        (repeat first | rw [if_neg (by omega)] | rw [if_pos (by omega)])
        all_goals first | rfl | (exact cl_bb hC (by omega) (by omega)) | (congr 1; omega)
  · have hmn := x_mn hw hm9
    refine ⟨?_, fun p9 hp9 => ?_⟩
    · rw [hp, hX]
      (repeat first | rw [if_neg (by omega)] | rw [if_pos (by omega)])
      all_goals first | rfl | (exact cl_on hC (by omega)) | (congr 1; omega)
    · rw [hX] at hp9
      (repeat first | rw [if_neg (by omega)] at hp9 | rw [if_pos (by omega)] at hp9)
      rw [hp, hX]
      (repeat first | rw [if_neg (by omega)] | rw [if_pos (by omega)])
      all_goals first | rfl | (exact cl_ord hC (by omega) (by omega)) | (congr 1; omega)
set_option maxHeartbeats 1000000 in
theorem c_R_setDu {X : x_T} {s s1 : s_T} {o k d : Nat} (hC : c_R X s o) (hw : x_wf X) (hk : k < X 1) (hp : ∀ a9 b9, s1 a9 b9 = if a9 = o + 16 ∧ b9 = k then nI d else s a9 b9) : c_R (va_up X (82 + k) d) s1 o := by
  have hX : ∀ k9, (va_up X (82 + k) d) k9 = if k9 = 82 + k then d else X k9 := fun k9 => rfl
  have hs := x_sz hw
  refine ⟨⟨?_, ?_⟩, fun j9 hj9 => ?_, fun k9 hk9 => ?_, fun f9 g9 hf9 hg9 => ?_, fun m9 hm9 => ?_, fun m9 hm9 => ?_⟩
  · rw [hp, hX]
    (repeat first | rw [if_neg (by omega)] | rw [if_pos (by omega)])
    all_goals first | rfl | (exact cl_jobs hC) | (congr 1; omega)
  · rw [hp, hX]
    (repeat first | rw [if_neg (by omega)] | rw [if_pos (by omega)])
    all_goals first | rfl | (exact cl_ops hC) | (congr 1; omega)
  · rw [hX] at hj9
    (repeat first | rw [if_neg (by omega)] at hj9 | rw [if_pos (by omega)] at hj9)
    have hjb : j9 < X 0 → X (17 + j9) ≤ 4 := fun q => (x_jb hw q).2.2.2.2.2
    refine ⟨?_, ?_, ?_, ?_, fun i9 hi9 => ?_⟩
    · rw [hp, hX]
      (repeat first | rw [if_neg (by omega)] | rw [if_pos (by omega)])
      all_goals first | rfl | (exact cl_rel hC (by omega)) | (congr 1; omega)
    · rw [hp, hX]
      (repeat first | rw [if_neg (by omega)] | rw [if_pos (by omega)])
      all_goals first | rfl | (exact cl_due hC (by omega)) | (congr 1; omega)
    · rw [hp, hX]
      (repeat first | rw [if_neg (by omega)] | rw [if_pos (by omega)])
      all_goals first | rfl | (exact cl_wt hC (by omega)) | (congr 1; omega)
    · rw [hp, hX]
      (repeat first | rw [if_neg (by omega)] | rw [if_pos (by omega)])
      all_goals first | rfl | (exact cl_len hC (by omega)) | (congr 1; omega)
    · rw [hX] at hi9
      (repeat first | rw [if_neg (by omega)] at hi9 | rw [if_pos (by omega)] at hi9)
      rw [hp, hX]
      (repeat first | rw [if_neg (by omega)] | rw [if_pos (by omega)])
      all_goals first | rfl | (exact cl_rt hC (by omega) (by omega)) | (congr 1; omega)
  · rw [hX] at hk9
    (repeat first | rw [if_neg (by omega)] at hk9 | rw [if_pos (by omega)] at hk9)
    refine ⟨?_, ?_, ?_, ?_, ?_⟩
    · rw [hp, hX]
      (repeat first | rw [if_neg (by omega)] | rw [if_pos (by omega)])
      all_goals first | rfl | (exact cl_job hC (by omega)) | (congr 1; omega)
    · rw [hp, hX]
      (repeat first | rw [if_neg (by omega)] | rw [if_pos (by omega)])
      all_goals first | rfl | (exact cl_mc hC (by omega)) | (congr 1; omega)
    · rw [hp, hX]
      by_cases e1 : k9 = k
      · (repeat first | rw [if_neg (by omega)] | rw [if_pos (by omega)])
        all_goals first | rfl | (exact cl_du hC (by omega)) | (congr 1; omega)
      · (repeat first | rw [if_neg (by omega)] | rw [if_pos (by omega)])
        all_goals first | rfl | (exact cl_du hC (by omega)) | (congr 1; omega)
    · rw [hp, hX]
      (repeat first | rw [if_neg (by omega)] | rw [if_pos (by omega)])
      all_goals first | rfl | (exact cl_fa hC (by omega)) | (congr 1; omega)
    · rw [hp, hX]
      (repeat first | rw [if_neg (by omega)] | rw [if_pos (by omega)])
      all_goals first | rfl | (exact cl_st hC (by omega)) | (congr 1; omega)
  · rw [hp, hX]
    (repeat first | rw [if_neg (by omega)] | rw [if_pos (by omega)])
    all_goals first | rfl | (exact cl_su hC (by omega) (by omega)) | (congr 1; omega)
  · have hmn := x_mn hw hm9
    refine ⟨?_, fun i9 hi9 => ?_⟩
    · rw [hp, hX]
      (repeat first | rw [if_neg (by omega)] | rw [if_pos (by omega)])
      all_goals first | rfl | (exact cl_bn hC (by omega)) | (congr 1; omega)
    · rw [hX] at hi9
      (repeat first | rw [if_neg (by omega)] at hi9 | rw [if_pos (by omega)] at hi9)
      refine ⟨?_, ?_⟩
      · rw [hp, hX]
        (repeat first | rw [if_neg (by omega)] | rw [if_pos (by omega)])
        all_goals first | rfl | (exact cl_bf hC (by omega) (by omega)) | (congr 1; omega)
      · rw [hp, hX, hX]
        (repeat first | rw [if_neg (by omega)] | rw [if_pos (by omega)])
        all_goals first | rfl | (exact cl_bb hC (by omega) (by omega)) | (congr 1; omega)
  · have hmn := x_mn hw hm9
    refine ⟨?_, fun p9 hp9 => ?_⟩
    · rw [hp, hX]
      (repeat first | rw [if_neg (by omega)] | rw [if_pos (by omega)])
      all_goals first | rfl | (exact cl_on hC (by omega)) | (congr 1; omega)
    · rw [hX] at hp9
      (repeat first | rw [if_neg (by omega)] at hp9 | rw [if_pos (by omega)] at hp9)
      rw [hp, hX]
      (repeat first | rw [if_neg (by omega)] | rw [if_pos (by omega)])
      all_goals first | rfl | (exact cl_ord hC (by omega) (by omega)) | (congr 1; omega)
set_option maxHeartbeats 1000000 in
theorem c_R_setSu {X : x_T} {s s1 : s_T} {o f g t : Nat} (hC : c_R X s o) (hw : x_wf X) (hf : f < 3) (hg : g < 3) (hp : ∀ a9 b9, s1 a9 b9 = if a9 = o + 20 + f ∧ b9 = g then nI t else s a9 b9) : c_R (va_up X (142 + 3 * f + g) t) s1 o := by
  have hX : ∀ k9, (va_up X (142 + 3 * f + g) t) k9 = if k9 = 142 + 3 * f + g then t else X k9 := fun k9 => rfl
  have hs := x_sz hw
  refine ⟨⟨?_, ?_⟩, fun j9 hj9 => ?_, fun k9 hk9 => ?_, fun f9 g9 hf9 hg9 => ?_, fun m9 hm9 => ?_, fun m9 hm9 => ?_⟩
  · rw [hp, hX]
    (repeat first | rw [if_neg (by omega)] | rw [if_pos (by omega)])
    all_goals first | rfl | (exact cl_jobs hC) | (congr 1; omega)
  · rw [hp, hX]
    (repeat first | rw [if_neg (by omega)] | rw [if_pos (by omega)])
    all_goals first | rfl | (exact cl_ops hC) | (congr 1; omega)
  · rw [hX] at hj9
    (repeat first | rw [if_neg (by omega)] at hj9 | rw [if_pos (by omega)] at hj9)
    have hjb : j9 < X 0 → X (17 + j9) ≤ 4 := fun q => (x_jb hw q).2.2.2.2.2
    refine ⟨?_, ?_, ?_, ?_, fun i9 hi9 => ?_⟩
    · rw [hp, hX]
      (repeat first | rw [if_neg (by omega)] | rw [if_pos (by omega)])
      all_goals first | rfl | (exact cl_rel hC (by omega)) | (congr 1; omega)
    · rw [hp, hX]
      (repeat first | rw [if_neg (by omega)] | rw [if_pos (by omega)])
      all_goals first | rfl | (exact cl_due hC (by omega)) | (congr 1; omega)
    · rw [hp, hX]
      (repeat first | rw [if_neg (by omega)] | rw [if_pos (by omega)])
      all_goals first | rfl | (exact cl_wt hC (by omega)) | (congr 1; omega)
    · rw [hp, hX]
      (repeat first | rw [if_neg (by omega)] | rw [if_pos (by omega)])
      all_goals first | rfl | (exact cl_len hC (by omega)) | (congr 1; omega)
    · rw [hX] at hi9
      (repeat first | rw [if_neg (by omega)] at hi9 | rw [if_pos (by omega)] at hi9)
      rw [hp, hX]
      (repeat first | rw [if_neg (by omega)] | rw [if_pos (by omega)])
      all_goals first | rfl | (exact cl_rt hC (by omega) (by omega)) | (congr 1; omega)
  · rw [hX] at hk9
    (repeat first | rw [if_neg (by omega)] at hk9 | rw [if_pos (by omega)] at hk9)
    refine ⟨?_, ?_, ?_, ?_, ?_⟩
    · rw [hp, hX]
      (repeat first | rw [if_neg (by omega)] | rw [if_pos (by omega)])
      all_goals first | rfl | (exact cl_job hC (by omega)) | (congr 1; omega)
    · rw [hp, hX]
      (repeat first | rw [if_neg (by omega)] | rw [if_pos (by omega)])
      all_goals first | rfl | (exact cl_mc hC (by omega)) | (congr 1; omega)
    · rw [hp, hX]
      (repeat first | rw [if_neg (by omega)] | rw [if_pos (by omega)])
      all_goals first | rfl | (exact cl_du hC (by omega)) | (congr 1; omega)
    · rw [hp, hX]
      (repeat first | rw [if_neg (by omega)] | rw [if_pos (by omega)])
      all_goals first | rfl | (exact cl_fa hC (by omega)) | (congr 1; omega)
    · rw [hp, hX]
      (repeat first | rw [if_neg (by omega)] | rw [if_pos (by omega)])
      all_goals first | rfl | (exact cl_st hC (by omega)) | (congr 1; omega)
  · rw [hp, hX]
    by_cases e2 : f9 = f
    · by_cases e1 : g9 = g
      · (repeat first | rw [if_neg (by omega)] | rw [if_pos (by omega)])
        all_goals first | rfl | (exact cl_su hC (by omega) (by omega)) | (congr 1; omega)
      · (repeat first | rw [if_neg (by omega)] | rw [if_pos (by omega)])
        all_goals first | rfl | (exact cl_su hC (by omega) (by omega)) | (congr 1; omega)
    · by_cases e1 : g9 = g
      · (repeat first | rw [if_neg (by omega)] | rw [if_pos (by omega)])
        all_goals first | rfl | (exact cl_su hC (by omega) (by omega)) | (congr 1; omega)
      · (repeat first | rw [if_neg (by omega)] | rw [if_pos (by omega)])
        all_goals first | rfl | (exact cl_su hC (by omega) (by omega)) | (congr 1; omega)
  · have hmn := x_mn hw hm9
    refine ⟨?_, fun i9 hi9 => ?_⟩
    · rw [hp, hX]
      (repeat first | rw [if_neg (by omega)] | rw [if_pos (by omega)])
      all_goals first | rfl | (exact cl_bn hC (by omega)) | (congr 1; omega)
    · rw [hX] at hi9
      (repeat first | rw [if_neg (by omega)] at hi9 | rw [if_pos (by omega)] at hi9)
      refine ⟨?_, ?_⟩
      · rw [hp, hX]
        (repeat first | rw [if_neg (by omega)] | rw [if_pos (by omega)])
        all_goals first | rfl | (exact cl_bf hC (by omega) (by omega)) | (congr 1; omega)
      · rw [hp, hX, hX]
        (repeat first | rw [if_neg (by omega)] | rw [if_pos (by omega)])
        all_goals first | rfl | (exact cl_bb hC (by omega) (by omega)) | (congr 1; omega)
  · have hmn := x_mn hw hm9
    refine ⟨?_, fun p9 hp9 => ?_⟩
    · rw [hp, hX]
      (repeat first | rw [if_neg (by omega)] | rw [if_pos (by omega)])
      all_goals first | rfl | (exact cl_on hC (by omega)) | (congr 1; omega)
    · rw [hX] at hp9
      (repeat first | rw [if_neg (by omega)] at hp9 | rw [if_pos (by omega)] at hp9)
      rw [hp, hX]
      (repeat first | rw [if_neg (by omega)] | rw [if_pos (by omega)])
      all_goals first | rfl | (exact cl_ord hC (by omega) (by omega)) | (congr 1; omega)
set_option maxHeartbeats 1000000 in
theorem c_R_clrBr {X : x_T} {s s1 : s_T} {o m : Nat} (hC : c_R X s o) (hw : x_wf X) (hm : m < 4) (hp : ∀ a9 b9, s1 a9 b9 = if a9 = o + 23 ∧ b9 = m then nI 0 else s a9 b9) : c_R (va_up X (151 + m) 0) s1 o := by
  have hX : ∀ k9, (va_up X (151 + m) 0) k9 = if k9 = 151 + m then 0 else X k9 := fun k9 => rfl
  have hs := x_sz hw
  refine ⟨⟨?_, ?_⟩, fun j9 hj9 => ?_, fun k9 hk9 => ?_, fun f9 g9 hf9 hg9 => ?_, fun m9 hm9 => ?_, fun m9 hm9 => ?_⟩
  · rw [hp, hX]
    (repeat first | rw [if_neg (by omega)] | rw [if_pos (by omega)])
    all_goals first | rfl | (exact cl_jobs hC) | (congr 1; omega)
  · rw [hp, hX]
    (repeat first | rw [if_neg (by omega)] | rw [if_pos (by omega)])
    all_goals first | rfl | (exact cl_ops hC) | (congr 1; omega)
  · rw [hX] at hj9
    (repeat first | rw [if_neg (by omega)] at hj9 | rw [if_pos (by omega)] at hj9)
    have hjb : j9 < X 0 → X (17 + j9) ≤ 4 := fun q => (x_jb hw q).2.2.2.2.2
    refine ⟨?_, ?_, ?_, ?_, fun i9 hi9 => ?_⟩
    · rw [hp, hX]
      (repeat first | rw [if_neg (by omega)] | rw [if_pos (by omega)])
      all_goals first | rfl | (exact cl_rel hC (by omega)) | (congr 1; omega)
    · rw [hp, hX]
      (repeat first | rw [if_neg (by omega)] | rw [if_pos (by omega)])
      all_goals first | rfl | (exact cl_due hC (by omega)) | (congr 1; omega)
    · rw [hp, hX]
      (repeat first | rw [if_neg (by omega)] | rw [if_pos (by omega)])
      all_goals first | rfl | (exact cl_wt hC (by omega)) | (congr 1; omega)
    · rw [hp, hX]
      (repeat first | rw [if_neg (by omega)] | rw [if_pos (by omega)])
      all_goals first | rfl | (exact cl_len hC (by omega)) | (congr 1; omega)
    · rw [hX] at hi9
      (repeat first | rw [if_neg (by omega)] at hi9 | rw [if_pos (by omega)] at hi9)
      rw [hp, hX]
      (repeat first | rw [if_neg (by omega)] | rw [if_pos (by omega)])
      all_goals first | rfl | (exact cl_rt hC (by omega) (by omega)) | (congr 1; omega)
  · rw [hX] at hk9
    (repeat first | rw [if_neg (by omega)] at hk9 | rw [if_pos (by omega)] at hk9)
    refine ⟨?_, ?_, ?_, ?_, ?_⟩
    · rw [hp, hX]
      (repeat first | rw [if_neg (by omega)] | rw [if_pos (by omega)])
      all_goals first | rfl | (exact cl_job hC (by omega)) | (congr 1; omega)
    · rw [hp, hX]
      (repeat first | rw [if_neg (by omega)] | rw [if_pos (by omega)])
      all_goals first | rfl | (exact cl_mc hC (by omega)) | (congr 1; omega)
    · rw [hp, hX]
      (repeat first | rw [if_neg (by omega)] | rw [if_pos (by omega)])
      all_goals first | rfl | (exact cl_du hC (by omega)) | (congr 1; omega)
    · rw [hp, hX]
      (repeat first | rw [if_neg (by omega)] | rw [if_pos (by omega)])
      all_goals first | rfl | (exact cl_fa hC (by omega)) | (congr 1; omega)
    · rw [hp, hX]
      (repeat first | rw [if_neg (by omega)] | rw [if_pos (by omega)])
      all_goals first | rfl | (exact cl_st hC (by omega)) | (congr 1; omega)
  · rw [hp, hX]
    (repeat first | rw [if_neg (by omega)] | rw [if_pos (by omega)])
    all_goals first | rfl | (exact cl_su hC (by omega) (by omega)) | (congr 1; omega)
  · have hmn := x_mn hw hm9
    refine ⟨?_, fun i9 hi9 => ?_⟩
    · rw [hp, hX]
      by_cases e1 : m9 = m
      · (repeat first | rw [if_neg (by omega)] | rw [if_pos (by omega)])
        all_goals first | rfl | (exact cl_bn hC (by omega)) | (congr 1; omega)
      · (repeat first | rw [if_neg (by omega)] | rw [if_pos (by omega)])
        all_goals first | rfl | (exact cl_bn hC (by omega)) | (congr 1; omega)
    · rw [hX] at hi9
      by_cases e9 : m9 = m
      · subst e9
        (repeat first | rw [if_neg (by omega)] at hi9 | rw [if_pos (by omega)] at hi9)
        refine ⟨?_, ?_⟩
        · rw [hp, hX]
          (repeat first | rw [if_neg (by omega)] | rw [if_pos (by omega)])
          all_goals first | rfl | (exact cl_bf hC (by omega) (by omega)) | (congr 1; omega)
        · rw [hp, hX, hX]
          (repeat first | rw [if_neg (by omega)] | rw [if_pos (by omega)])
          all_goals first | rfl | (exact cl_bb hC (by omega) (by omega)) | (congr 1; omega)
      · (repeat first | rw [if_neg (by omega)] at hi9 | rw [if_pos (by omega)] at hi9)
        refine ⟨?_, ?_⟩
        · rw [hp, hX]
          (repeat first | rw [if_neg (by omega)] | rw [if_pos (by omega)])
          all_goals first | rfl | (exact cl_bf hC (by omega) (by omega)) | (congr 1; omega)
        · rw [hp, hX, hX]
          (repeat first | rw [if_neg (by omega)] | rw [if_pos (by omega)])
          all_goals first | rfl | (exact cl_bb hC (by omega) (by omega)) | (congr 1; omega)
  · have hmn := x_mn hw hm9
    refine ⟨?_, fun p9 hp9 => ?_⟩
    · rw [hp, hX]
      (repeat first | rw [if_neg (by omega)] | rw [if_pos (by omega)])
      all_goals first | rfl | (exact cl_on hC (by omega)) | (congr 1; omega)
    · rw [hX] at hp9
      (repeat first | rw [if_neg (by omega)] at hp9 | rw [if_pos (by omega)] at hp9)
      rw [hp, hX]
      (repeat first | rw [if_neg (by omega)] | rw [if_pos (by omega)])
      all_goals first | rfl | (exact cl_ord hC (by omega) (by omega)) | (congr 1; omega)
theorem c_jd {X : x_T} {s : s_T} {o j a : Nat} (hC : c_R X s o) (hj : j < X 0) (ha : a ≤ 2) : s (o + 2 + j) a = nI (X (2 + 5 * a + j)) := by
  match a, ha with
  | 0, _ => exact cl_rel hC hj
  | 1, _ => exact cl_due hC hj
  | 2, _ => exact cl_wt hC hj
set_option maxRecDepth 20000 in
set_option maxHeartbeats 1000000 in
theorem c_accepts {G : q_G} {s : s_T} {X : x_T} {o j m : Nat} (ho : isX7 o) (hC : c_R X s o) (hw : x_wf X) (hj : j < X 0) (hm : m < 4) : s_W G mX7_accepts 1 0 0 (c_I (fun y9 s1 => s1 = s ∧ y9 = bI (! (decide (X (17 + j) = 4) || x_hm X j m (X (17 + j)))))) 0 (q_ent mX7_accepts [.ref o, .int (nI j), .int (nI m)]) [] s := by
  show s_W G mX7_accepts 1 0 0 _ 0 [some (.ref o), some (.int (nI j)), some (.int (nI m)), none] [] s
  have hs := x_sz hw
  have hjb := x_jb hw hj
  by_cases h4 : X (17 + j) = 4
  · rw [decide_eq_true h4]
    refine r_aload_n dX7_accepts_0 rfl rfl ?_
    refine s_getR dX7_accepts_1 fX7_16 (layX7 ho) rfl ?_
    refine r_iload_n dX7_accepts_4 rfl rfl ?_
    refine a_ld dX7_accepts_5 (X7_stepCounts ho) (by omega) (by decide) (cl_len hC (by omega)) ?_
    refine n_const 4 dX7_accepts_6 (by decide) ?_
    refine n_cge (tgt := 19) dX7_accepts_7 (by decide) (by omega) (by omega) (fun c7 => ?_) (fun c7 => ?_)
    · refine n_const 0 dX7_accepts_19 (by decide) ?_
      refine s_iret dX7_accepts_20 rfl rfl ?_
      exact ⟨_, rfl, rfl, rfl⟩
    · exact absurd h4 (by omega)
  have lp : ∀ f i, x_hm X j m i = false → i ≤ X (17 + j) → X (17 + j) < i + f → s_W G mX7_accepts 1 0 0 (c_I (fun y9 s1 => s1 = s ∧ y9 = bI (! (decide (X (17 + j) = 4) || x_hm X j m (X (17 + j)))))) 23 [some (.ref o), some (.int (nI j)), some (.int (nI m)), some (.int (nI i))] [] s := by
    intro f
    induction f with
    | zero => intro i _ h1 h2; exact absurd h2 (by omega)
    | succ f ih =>
      intro i hx hi hme
      refine r_iload_n dX7_accepts_23 rfl rfl ?_
      refine r_aload_n dX7_accepts_24 rfl rfl ?_
      refine s_getR dX7_accepts_25 fX7_16 (layX7 ho) rfl ?_
      refine r_iload_n dX7_accepts_28 rfl rfl ?_
      refine a_ld dX7_accepts_29 (X7_stepCounts ho) (by omega) (by decide) (cl_len hC (by omega)) ?_
      refine n_cge (tgt := 58) dX7_accepts_30 (by decide) (by omega) (by omega) (fun c30 => ?_) (fun c30 => ?_)
      · refine n_const 1 dX7_accepts_58 (by decide) ?_
        refine s_iret dX7_accepts_59 rfl rfl ?_
        refine ⟨_, rfl, rfl, ?_⟩
        first
          | (have e9 : i = X (17 + j) := by omega
             subst e9
             rw [hx, decide_eq_false (by omega)]; rfl)
          | (rw [(x_hm_iff _).mpr ⟨i, c30, c47⟩, Bool.or_true]; rfl)
      · have hrt := x_rt hw hj c30
        have hop := x_op hw hrt.1
        refine r_aload_n dX7_accepts_33 rfl rfl ?_
        refine s_getR dX7_accepts_34 fX7_26 (layX7 ho) rfl ?_
        refine r_aload_n dX7_accepts_37 rfl rfl ?_
        refine s_getR dX7_accepts_38 fX7_20 (layX7 ho) rfl ?_
        refine r_iload_n dX7_accepts_41 rfl rfl ?_
        refine a_ald dX7_accepts_42 (X7_routes ho) (by omega) (by decide) ?_
        refine r_iload_n dX7_accepts_43 rfl rfl ?_
        refine a_ld dX7_accepts_44 (X7_routes_row ho (by omega)) (by omega) (by decide) (cl_rt hC (by omega) (by omega)) ?_
        refine a_ld dX7_accepts_45 (X7_machineOf ho) (by omega) (by decide) (cl_mc hC (by omega)) ?_
        refine r_iload_n dX7_accepts_46 rfl rfl ?_
        refine n_cne (tgt := 52) dX7_accepts_47 (by decide) (by omega) (by omega) (fun c47 => ?_) (fun c47 => ?_)
        · refine n_inc dX7_accepts_52 rfl (n_i1 _) (by decide) rfl ?_
          refine r_goto (tgt := 23) dX7_accepts_55 (by decide) ?_
          refine ih _ ?_ (by omega) (by omega)
          unfold x_hm
          rw [hx, Bool.false_or, decide_eq_false c47]
        · refine n_const 0 dX7_accepts_50 (by decide) ?_
          refine s_iret dX7_accepts_51 rfl rfl ?_
          refine ⟨_, rfl, rfl, ?_⟩
          first
            | (have e9 : i = X (17 + j) := by omega
               subst e9
               rw [hx, decide_eq_false (by omega)]; rfl)
            | (rw [(x_hm_iff _).mpr ⟨i, c30, c47⟩, Bool.or_true]; rfl)
  refine r_aload_n dX7_accepts_0 rfl rfl ?_
  refine s_getR dX7_accepts_1 fX7_16 (layX7 ho) rfl ?_
  refine r_iload_n dX7_accepts_4 rfl rfl ?_
  refine a_ld dX7_accepts_5 (X7_stepCounts ho) (by omega) (by decide) (cl_len hC (by omega)) ?_
  refine n_const 4 dX7_accepts_6 (by decide) ?_
  refine n_cge (tgt := 19) dX7_accepts_7 (by decide) (by omega) (by omega) (fun c7 => ?_) (fun c7 => ?_)
  · exact absurd c7 (by omega)
  · refine r_aload_n dX7_accepts_10 rfl rfl ?_
    refine s_getI dX7_accepts_11 fX7_61 (layX7 ho) rfl (cl_ops hC) ?_
    refine n_bip 20 dX7_accepts_14 (by decide) ?_
    refine n_clt (tgt := 21) dX7_accepts_16 (by decide) (by omega) (by omega) (fun c16 => ?_) (fun c16 => ?_)
    · refine n_const 0 dX7_accepts_21 (by decide) ?_
      refine r_istore_n dX7_accepts_22 rfl (by decide) rfl ?_
      exact lp (X (17 + j) + 1) 0 rfl (by omega) (by omega)
    · refine n_const 0 dX7_accepts_19 (by decide) ?_
      refine s_iret dX7_accepts_20 rfl rfl ?_
      refine ⟨_, rfl, rfl, ?_⟩
      cases h9 : x_hm X j m (X (17 + j)) with
      | true => rw [Bool.or_true]; rfl
      | false => exact absurd (x_room hw hj hm (by omega) h9).1 (by omega)
set_option maxRecDepth 20000 in
set_option maxHeartbeats 1000000 in
theorem c_addJob {G : q_G} {s : s_T} {z : z_T} (hz : z_wf z) (hZ : c_Z z s) {r u w : Int32} : s_W G mX11_addJob 8 2 12 (c_P [q_IA, q_IS] (A_addJob z r u w) s) 0 (q_ent mX11_addJob [.ref 0, .int r, .int u, .int w]) [] s := by
  show s_W G mX11_addJob 8 2 12 _ 0 [some (.ref 0), some (.int r), some (.int u), some (.int w)] [] s
  have hw := hz.1.1
  have hs := x_sz hw
  have hC := hZ.1
  have hf : s_fr 0 212 s s := s_fr_rf
  have ho : isX7 1 := Or.inl rfl
  refine r_iload_n dX11_addJob_0 rfl rfl ?_
  refine r_iload_n dX11_addJob_1 rfl rfl ?_
  refine r_iload_n dX11_addJob_2 rfl rfl ?_
  refine s_S3I mX11_jobFits dX11_addJob_3 okX11_jobFits lX11_88 npX11_jobFits (by decide) (by decide) (by decide) (Nat.le_of_ble_eq_true rfl) (Nat.le_of_ble_eq_true rfl) c_jobFits (fun x s1 hq => ?_)
  obtain ⟨rfl, rfl⟩ := hq
  refine b_ifne (tgt := 19) dX11_addJob_6 (by decide) (fun c6 => ?_) (fun c6 => ?_)
  · have hjj := c6
    simp only [Bool.and_eq_true] at hjj
    obtain ⟨⟨h1, h2⟩, h4⟩ := hjj
    obtain ⟨r, rfl, -, hr, hr2⟩ := iIn_n h1
    obtain ⟨u, rfl, -, hu, hu2⟩ := iIn_n h2
    obtain ⟨w, rfl, -, hw1, hw2⟩ := iIn_n h4
    have er := iN_n hr2
    have eu := iN_n hu2
    have ew := iN_n hw2
    refine r_aload_n dX11_addJob_19 rfl rfl ?_
    refine s_getR dX11_addJob_20 fX11_10 lysX11 rfl ?_
    refine s_getI dX11_addJob_23 fX11_99 (layX7 isX7_1) rfl (cl_jobs hC) ?_
    refine n_const 5 dX11_addJob_26 (by decide) ?_
    refine n_clt (tgt := 40) dX11_addJob_27 (by decide) (by omega) (by omega) (fun c27 => ?_) (fun c27 => ?_)
    · have hn5 : ¬ z 0 0 = 5 := by omega
      refine r_aload_n dX11_addJob_40 rfl rfl ?_
      refine s_getR dX11_addJob_41 fX11_10 lysX11 rfl ?_
      refine r_iload_n dX11_addJob_44 rfl rfl ?_
      refine r_iload_n dX11_addJob_45 rfl rfl ?_
      refine r_iload_n dX11_addJob_46 rfl rfl ?_
      refine s_V3I mX7_createJob dX11_addJob_47 okX7_createJob lX11_108 npX7_createJob (layX7 isX7_1) rfl (by decide) (by decide) (by decide) (Nat.le_of_ble_eq_true rfl) (Nat.le_of_ble_eq_true rfl) (c_cCreateJob ho hC hw (by omega)) (fun x s1 hq => ?_)
      obtain ⟨rfl, hX, hf1⟩ := hq
      have hZ := c_Z_eq hZ hX (c_eq_fr hf1 (by omega)) (z_J hz)
      have hf := s_fr_tr hf (s_fr_w hf1 (by omega) (by omega))
      refine s_iret dX11_addJob_50 rfl rfl ?_
      first
        | exact c_P_s (by unfold A_addJob; simp [*]) hZ hf
        | exact c_P_n (by unfold A_addJob; simp [*]) hZ hf
    · have hn5 : z 0 0 = 5 := by omega
      refine s_throwS dX11_addJob_30 dX11_addJob_33 dX11_addJob_34 dX11_addJob_36 dX11_addJob_39 thrX11_105_107 rfl (by decide) (by decide) (by decide) (Nat.le_of_ble_eq_true rfl) ?_
      exact c_P_e 2 (by unfold A_addJob; simp [*]) (by decide) rfl hZ hf
  · refine s_throwS dX11_addJob_9 dX11_addJob_12 dX11_addJob_13 dX11_addJob_15 dX11_addJob_18 thrX11_94_96 rfl (by decide) (by decide) (by decide) (Nat.le_of_ble_eq_true rfl) ?_
    exact c_P_e 1 (by unfold A_addJob; simp [*]) (by decide) rfl hZ hf
set_option maxRecDepth 20000 in
set_option maxHeartbeats 1000000 in
theorem c_setDuration {G : q_G} {s : s_T} {z : z_T} (hz : z_wf z) (hZ : c_Z z s) {k d : Int32} : s_W G mX11_setDuration 8 2 12 (c_P [q_IO, q_IA] (A_setDuration z k d) s) 0 (q_ent mX11_setDuration [.ref 0, .int k, .int d]) [] s := by
  show s_W G mX11_setDuration 8 2 12 _ 0 [some (.ref 0), some (.int k), some (.int d), none] [] s
  have hw := hz.1.1
  have hs := x_sz hw
  have hC := hZ.1
  have hf : s_fr 0 212 s s := s_fr_rf
  have ho : isX7 1 := Or.inl rfl
  refine r_aload_n dX11_setDuration_0 rfl rfl ?_
  refine r_iload_n dX11_setDuration_1 rfl rfl ?_
  refine s_V1X mX11_requireOperation dX11_setDuration_2 okX11_requireOperation lX11_151 npX11_requireOperation lysX11 rfl (by decide) (by decide) (by decide) (Nat.le_of_ble_eq_true rfl) (Nat.le_of_ble_eq_true rfl) (c_requireOperation hC hw) (fun v s1 hq => ?_) (fun E s1 hq => by obtain ⟨rfl, c9, rfl⟩ := c_rq_f hq; exact x_out rfl (s_end (c_P_e 1 (by unfold A_setDuration; simp [*]) (by decide) rfl hZ hf)))
  obtain ⟨rfl, c2, rfl⟩ := c_rq_t hq
  obtain ⟨k, rfl, hk, hk2⟩ := iLt_n c2
  have ek := iN_n hk2
  refine r_iload_n dX11_setDuration_5 rfl rfl ?_
  refine s_S1I mX11_durationFits dX11_setDuration_6 okX11_durationFits lX11_119 npX11_durationFits (by decide) (by decide) (by decide) (Nat.le_of_ble_eq_true rfl) (Nat.le_of_ble_eq_true rfl) c_durationFits (fun x s1 hq => ?_)
  obtain ⟨rfl, rfl⟩ := hq
  refine b_ifne (tgt := 22) dX11_setDuration_9 (by decide) (fun c9 => ?_) (fun c9 => ?_)
  · obtain ⟨d, rfl, hd0, hd, hd2⟩ := iIn_n c9
    have ed := iN_n hd2
    refine r_aload_n dX11_setDuration_22 rfl rfl ?_
    refine s_getR dX11_setDuration_23 fX11_10 lysX11 rfl ?_
    refine s_getR dX11_setDuration_26 fX11_156 (layX7 isX7_1) rfl ?_
    refine r_iload_n dX11_setDuration_29 rfl rfl ?_
    refine a_ld dX11_setDuration_30 (X7_durations isX7_1) (by omega) (by decide) (cl_du hC (by omega)) ?_
    refine r_istore_n dX11_setDuration_31 rfl (by decide) rfl ?_
    refine r_aload_n dX11_setDuration_32 rfl rfl ?_
    refine s_getR dX11_setDuration_33 fX11_10 lysX11 rfl ?_
    refine s_getR dX11_setDuration_36 fX11_156 (layX7 isX7_1) rfl ?_
    refine r_iload_n dX11_setDuration_39 rfl rfl ?_
    refine r_iload_n dX11_setDuration_40 rfl rfl ?_
    refine a_st dX11_setDuration_41 (X7_durations isX7_1) (by omega) (by decide) (fun s1 hs1 hf1 => ?_)
    have hX := c_R_setDu hC hw hk (s_pt hs1 hf1)
    have hZ := c_Z_eq hZ hX (c_eq_fr hf1 (by omega)) (z_J hz)
    have hf := s_fr_tr hf (s_fr_w hf1 (by omega) (by omega))
    refine r_iload_n dX11_setDuration_42 rfl rfl ?_
    refine s_iret dX11_setDuration_43 rfl rfl ?_
    first
      | exact c_P_s (by unfold A_setDuration; simp [*]) hZ hf
      | exact c_P_n (by unfold A_setDuration; simp [*]) hZ hf
  · refine s_throwS dX11_setDuration_12 dX11_setDuration_15 dX11_setDuration_16 dX11_setDuration_18 dX11_setDuration_21 thrX11_154_96 rfl (by decide) (by decide) (by decide) (Nat.le_of_ble_eq_true rfl) ?_
    exact c_P_e 2 (by unfold A_setDuration; simp [*]) (by decide) rfl hZ hf
set_option maxRecDepth 20000 in
set_option maxHeartbeats 1000000 in
theorem c_setJob {G : q_G} {s : s_T} {z : z_T} (hz : z_wf z) (hZ : c_Z z s) {j a v : Int32} : s_W G mX11_setJob 8 2 12 (c_P [q_IO, q_IA] (A_setJob z j a v) s) 0 (q_ent mX11_setJob [.ref 0, .int j, .int a, .int v]) [] s := by
  show s_W G mX11_setJob 8 2 12 _ 0 [some (.ref 0), some (.int j), some (.int a), some (.int v), none] [] s
  have hw := hz.1.1
  have hs := x_sz hw
  have hC := hZ.1
  have hf : s_fr 0 212 s s := s_fr_rf
  have ho : isX7 1 := Or.inl rfl
  refine r_aload_n dX11_setJob_0 rfl rfl ?_
  refine r_iload_n dX11_setJob_1 rfl rfl ?_
  refine s_V1X mX11_requireJob dX11_setJob_2 okX11_requireJob lX11_112 npX11_requireJob lysX11 rfl (by decide) (by decide) (by decide) (Nat.le_of_ble_eq_true rfl) (Nat.le_of_ble_eq_true rfl) (c_requireJob hC hw) (fun v s1 hq => ?_) (fun E s1 hq => by obtain ⟨rfl, c9, rfl⟩ := c_rq_f hq; exact x_out rfl (s_end (c_P_e 1 (by unfold A_setJob; simp [*]) (by decide) rfl hZ hf)))
  obtain ⟨rfl, c2, rfl⟩ := c_rq_t hq
  obtain ⟨j, rfl, hj, hj2⟩ := iLt_n c2
  have ej := iN_n hj2
  refine r_iload_n dX11_setJob_5 rfl rfl ?_
  refine n_const 2 dX11_setJob_6 (by decide) ?_
  refine s_S2I mX11_within dX11_setJob_7 okX11_within lX11_138 npX11_within (by decide) (by decide) (by decide) (Nat.le_of_ble_eq_true rfl) (Nat.le_of_ble_eq_true rfl) (c_within (by first | decide | (unfold x_jl; (repeat' split) <;> decide))) (fun x s1 hq => ?_)
  obtain ⟨rfl, rfl⟩ := hq
  refine b_ifeq (tgt := 25) dX11_setJob_10 (by decide) (fun c10 => ?_) (fun c10 => ?_)
  · refine s_throwS dX11_setJob_25 dX11_setJob_28 dX11_setJob_29 dX11_setJob_31 dX11_setJob_34 thrX11_145_96 rfl (by decide) (by decide) (by decide) (Nat.le_of_ble_eq_true rfl) ?_
    exact c_P_e 2 (by unfold A_setJob; simp [*]) (by decide) rfl hZ hf
  · obtain ⟨a, rfl, ha0, ha, ha2⟩ := iIn_n c10
    have ea := iN_n ha2
    refine r_iload_n dX11_setJob_13 rfl rfl ?_
    refine r_gets dX11_setJob_14 kG_141 ?_
    refine r_iload_n dX11_setJob_17 rfl rfl ?_
    refine l_ld dX11_setJob_18 (by omega) ?_
    refine s_S2I mX11_within dX11_setJob_19 okX11_within lX11_138 npX11_within (by decide) (by decide) (by decide) (Nat.le_of_ble_eq_true rfl) (Nat.le_of_ble_eq_true rfl) (c_within (by first | decide | (unfold x_jl; (repeat' split) <;> decide))) (fun x s1 hq => ?_)
    obtain ⟨rfl, rfl⟩ := hq
    refine b_ifne (tgt := 35) dX11_setJob_22 (by decide) (fun c22 => ?_) (fun c22 => ?_)
    · obtain ⟨v, rfl, hv0, hv, hv2⟩ := iIn_n c22
      have ev := iN_n hv2
      refine r_aload_n dX11_setJob_35 rfl rfl ?_
      refine s_getR dX11_setJob_36 fX11_10 lysX11 rfl ?_
      refine s_getR dX11_setJob_39 fX11_147 (layX7 isX7_1) rfl ?_
      refine r_iload_n dX11_setJob_42 rfl rfl ?_
      refine a_ald dX11_setJob_43 (X7_jobData isX7_1) (by omega) (by decide) ?_
      refine r_iload_n dX11_setJob_44 rfl rfl ?_
      refine a_ld dX11_setJob_45 (X7_jobData_row isX7_1 (by omega)) (by omega) (by decide) (c_jd hC hj ha) ?_
      refine r_istore dX11_setJob_46 (by decide) rfl ?_
      refine r_aload_n dX11_setJob_48 rfl rfl ?_
      refine s_getR dX11_setJob_49 fX11_10 lysX11 rfl ?_
      refine s_getR dX11_setJob_52 fX11_147 (layX7 isX7_1) rfl ?_
      refine r_iload_n dX11_setJob_55 rfl rfl ?_
      refine a_ald dX11_setJob_56 (X7_jobData isX7_1) (by omega) (by decide) ?_
      refine r_iload_n dX11_setJob_57 rfl rfl ?_
      refine r_iload_n dX11_setJob_58 rfl rfl ?_
      refine a_st dX11_setJob_59 (X7_jobData_row isX7_1 (by omega)) (by omega) (by decide) (fun s1 hs1 hf1 => ?_)
      have hX := c_R_setJob hC hw hj (by omega) (s_pt hs1 hf1)
      have hZ := c_Z_eq hZ hX (c_eq_fr hf1 (by omega)) (z_J hz)
      have hf := s_fr_tr hf (s_fr_w hf1 (by omega) (by omega))
      refine r_iload dX11_setJob_60 rfl ?_
      refine s_iret dX11_setJob_62 rfl rfl ?_
      first
        | exact c_P_s (by unfold A_setJob; simp [*]) hZ hf
        | exact c_P_n (by unfold A_setJob; simp [*]) hZ hf
    · refine s_throwS dX11_setJob_25 dX11_setJob_28 dX11_setJob_29 dX11_setJob_31 dX11_setJob_34 thrX11_145_96 rfl (by decide) (by decide) (by decide) (Nat.le_of_ble_eq_true rfl) ?_
      exact c_P_e 2 (by unfold A_setJob; simp [*]) (by decide) rfl hZ hf
set_option maxRecDepth 20000 in
set_option maxHeartbeats 1000000 in
theorem c_setSetup {G : q_G} {s : s_T} {z : z_T} (hz : z_wf z) (hZ : c_Z z s) {a b t : Int32} : s_W G mX11_setSetup 8 2 12 (c_P [q_IO, q_IA] (A_setSetup z a b t) s) 0 (q_ent mX11_setSetup [.ref 0, .int a, .int b, .int t]) [] s := by
  show s_W G mX11_setSetup 8 2 12 _ 0 [some (.ref 0), some (.int a), some (.int b), some (.int t), none] [] s
  have hw := hz.1.1
  have hs := x_sz hw
  have hC := hZ.1
  have hf : s_fr 0 212 s s := s_fr_rf
  have ho : isX7 1 := Or.inl rfl
  refine r_iload_n dX11_setSetup_0 rfl rfl ?_
  refine s_S1I mX11_isFamily dX11_setSetup_1 okX11_isFamily lX11_123 npX11_isFamily (by decide) (by decide) (by decide) (Nat.le_of_ble_eq_true rfl) (Nat.le_of_ble_eq_true rfl) c_isFamily (fun x s1 hq => ?_)
  obtain ⟨rfl, rfl⟩ := hq
  refine b_ifeq (tgt := 14) dX11_setSetup_4 (by decide) (fun c4 => ?_) (fun c4 => ?_)
  · refine s_throwS dX11_setSetup_14 dX11_setSetup_17 dX11_setSetup_18 dX11_setSetup_20 dX11_setSetup_23 thrX11_161_163 rfl (by decide) (by decide) (by decide) (Nat.le_of_ble_eq_true rfl) ?_
    exact c_P_e 1 (by unfold A_setSetup; simp [*, iIn_iLt]) (by decide) rfl hZ hf
  · obtain ⟨a, rfl, ha, ha2⟩ := iLt_n c4
    have ea := iN_n ha2
    refine r_iload_n dX11_setSetup_7 rfl rfl ?_
    refine s_S1I mX11_isFamily dX11_setSetup_8 okX11_isFamily lX11_123 npX11_isFamily (by decide) (by decide) (by decide) (Nat.le_of_ble_eq_true rfl) (Nat.le_of_ble_eq_true rfl) c_isFamily (fun x s1 hq => ?_)
    obtain ⟨rfl, rfl⟩ := hq
    refine b_ifne (tgt := 24) dX11_setSetup_11 (by decide) (fun c11 => ?_) (fun c11 => ?_)
    · obtain ⟨b, rfl, hb, hb2⟩ := iLt_n c11
      have eb := iN_n hb2
      refine r_iload_n dX11_setSetup_24 rfl rfl ?_
      refine n_bip 9 dX11_setSetup_25 (by decide) ?_
      refine s_S2I mX11_within dX11_setSetup_27 okX11_within lX11_138 npX11_within (by decide) (by decide) (by decide) (Nat.le_of_ble_eq_true rfl) (Nat.le_of_ble_eq_true rfl) (c_within (by decide)) (fun x s1 hq => ?_)
      obtain ⟨rfl, rfl⟩ := hq
      refine b_ifne (tgt := 43) dX11_setSetup_30 (by decide) (fun c30 => ?_) (fun c30 => ?_)
      · obtain ⟨t, rfl, ht0, ht, ht2⟩ := iIn_n c30
        have et := iN_n ht2
        refine r_aload_n dX11_setSetup_43 rfl rfl ?_
        refine s_getR dX11_setSetup_44 fX11_10 lysX11 rfl ?_
        refine s_getR dX11_setSetup_47 fX11_166 (layX7 isX7_1) rfl ?_
        refine r_iload_n dX11_setSetup_50 rfl rfl ?_
        refine a_ald dX11_setSetup_51 (X7_setups isX7_1) (by omega) (by decide) ?_
        refine r_iload_n dX11_setSetup_52 rfl rfl ?_
        refine a_ld dX11_setSetup_53 (X7_setups_row isX7_1 (by omega)) (by omega) (by decide) (cl_su hC (by omega) (by omega)) ?_
        refine r_istore dX11_setSetup_54 (by decide) rfl ?_
        refine r_aload_n dX11_setSetup_56 rfl rfl ?_
        refine s_getR dX11_setSetup_57 fX11_10 lysX11 rfl ?_
        refine s_getR dX11_setSetup_60 fX11_166 (layX7 isX7_1) rfl ?_
        refine r_iload_n dX11_setSetup_63 rfl rfl ?_
        refine a_ald dX11_setSetup_64 (X7_setups isX7_1) (by omega) (by decide) ?_
        refine r_iload_n dX11_setSetup_65 rfl rfl ?_
        refine r_iload_n dX11_setSetup_66 rfl rfl ?_
        refine a_st dX11_setSetup_67 (X7_setups_row isX7_1 (by omega)) (by omega) (by decide) (fun s1 hs1 hf1 => ?_)
        have hX := c_R_setSu hC hw ha hb (s_pt hs1 hf1)
        have hZ := c_Z_eq hZ hX (c_eq_fr hf1 (by omega)) (z_J hz)
        have hf := s_fr_tr hf (s_fr_w hf1 (by omega) (by omega))
        refine r_iload dX11_setSetup_68 rfl ?_
        refine s_iret dX11_setSetup_70 rfl rfl ?_
        first
          | exact c_P_s (by unfold A_setSetup; simp [*, iIn_iLt]) hZ hf
          | exact c_P_n (by unfold A_setSetup; simp [*, iIn_iLt]) hZ hf
      · refine s_throwS dX11_setSetup_33 dX11_setSetup_36 dX11_setSetup_37 dX11_setSetup_39 dX11_setSetup_42 thrX11_164_96 rfl (by decide) (by decide) (by decide) (Nat.le_of_ble_eq_true rfl) ?_
        exact c_P_e 2 (by unfold A_setSetup; simp [*, iIn_iLt]) (by decide) rfl hZ hf
    · refine s_throwS dX11_setSetup_14 dX11_setSetup_17 dX11_setSetup_18 dX11_setSetup_20 dX11_setSetup_23 thrX11_161_163 rfl (by decide) (by decide) (by decide) (Nat.le_of_ble_eq_true rfl) ?_
      exact c_P_e 1 (by unfold A_setSetup; simp [*, iIn_iLt]) (by decide) rfl hZ hf
set_option maxRecDepth 20000 in
set_option maxHeartbeats 1000000 in
theorem c_clearBreakdowns {G : q_G} {s : s_T} {z : z_T} (hz : z_wf z) (hZ : c_Z z s) {m : Int32} : s_W G mX11_clearBreakdowns 8 2 12 (c_P [q_IO] (A_clearBreakdowns z m) s) 0 (q_ent mX11_clearBreakdowns [.ref 0, .int m]) [] s := by
  show s_W G mX11_clearBreakdowns 8 2 12 _ 0 [some (.ref 0), some (.int m), none] [] s
  have hw := hz.1.1
  have hs := x_sz hw
  have hC := hZ.1
  have hf : s_fr 0 212 s s := s_fr_rf
  have ho : isX7 1 := Or.inl rfl
  refine r_iload_n dX11_clearBreakdowns_0 rfl rfl ?_
  refine s_S1X mX11_requireMachine dX11_clearBreakdowns_1 okX11_requireMachine lX11_116 npX11_requireMachine (by decide) (by decide) (by decide) (Nat.le_of_ble_eq_true rfl) (Nat.le_of_ble_eq_true rfl) c_requireMachine (fun v s1 hq => ?_) (fun E s1 hq => by obtain ⟨rfl, c9, rfl⟩ := c_rq_f hq; exact x_out rfl (s_end (c_P_e 1 (by unfold A_clearBreakdowns; simp [*]) (by decide) rfl hZ hf)))
  obtain ⟨rfl, c1, rfl⟩ := c_rq_t hq
  obtain ⟨m, rfl, hm, hm2⟩ := iLt_n c1
  have em := iN_n hm2
  refine r_aload_n dX11_clearBreakdowns_4 rfl rfl ?_
  refine s_getR dX11_clearBreakdowns_5 fX11_10 lysX11 rfl ?_
  refine s_getR dX11_clearBreakdowns_8 fX11_171 (layX7 isX7_1) rfl ?_
  refine r_iload_n dX11_clearBreakdowns_11 rfl rfl ?_
  refine a_ld dX11_clearBreakdowns_12 (X7_breakdowns isX7_1) (by omega) (by decide) (cl_bn hC (by omega)) ?_
  refine r_istore_n dX11_clearBreakdowns_13 rfl (by decide) rfl ?_
  refine r_aload_n dX11_clearBreakdowns_14 rfl rfl ?_
  refine s_getR dX11_clearBreakdowns_15 fX11_10 lysX11 rfl ?_
  refine s_getR dX11_clearBreakdowns_18 fX11_171 (layX7 isX7_1) rfl ?_
  refine r_iload_n dX11_clearBreakdowns_21 rfl rfl ?_
  refine n_const 0 dX11_clearBreakdowns_22 (by decide) ?_
  refine a_st dX11_clearBreakdowns_23 (X7_breakdowns isX7_1) (by omega) (by decide) (fun s1 hs1 hf1 => ?_)
  have hX := c_R_clrBr hC hw hm (s_pt hs1 hf1)
  have hZ := c_Z_eq hZ hX (c_eq_fr hf1 (by omega)) (z_J hz)
  have hf := s_fr_tr hf (s_fr_w hf1 (by omega) (by omega))
  refine r_iload_n dX11_clearBreakdowns_24 rfl rfl ?_
  refine s_iret dX11_clearBreakdowns_25 rfl rfl ?_
  first
    | exact c_P_s (by unfold A_clearBreakdowns; simp [*]) hZ hf
    | exact c_P_n (by unfold A_clearBreakdowns; simp [*]) hZ hf
set_option maxRecDepth 20000 in
set_option maxHeartbeats 1000000 in
theorem c_count {G : q_G} {s : s_T} {z : z_T} (hz : z_wf z) (hZ : c_Z z s) {a : Int32} : s_W G mX11_count 8 2 12 (c_P [q_IA] (A_count z a) s) 0 (q_ent mX11_count [.ref 0, .int a]) [] s := by
  show s_W G mX11_count 8 2 12 _ 0 [some (.ref 0), some (.int a)] [] s
  have hw := hz.1.1
  have hs := x_sz hw
  have hC := hZ.1
  have hf : s_fr 0 212 s s := s_fr_rf
  have ho : isX7 1 := Or.inl rfl
  refine r_iload_n dX11_count_0 rfl rfl ?_
  refine n_const 1 dX11_count_1 (by decide) ?_
  refine s_S2I mX11_within dX11_count_2 okX11_within lX11_138 npX11_within (by decide) (by decide) (by decide) (Nat.le_of_ble_eq_true rfl) (Nat.le_of_ble_eq_true rfl) (c_within (by decide)) (fun x s1 hq => ?_)
  obtain ⟨rfl, rfl⟩ := hq
  refine b_ifne (tgt := 18) dX11_count_5 (by decide) (fun c5 => ?_) (fun c5 => ?_)
  · obtain ⟨a, rfl, ha0, ha, ha2⟩ := iIn_n c5
    have ea := iN_n ha2
    refine r_iload_n dX11_count_18 rfl rfl ?_
    refine n_ifne (tgt := 32) dX11_count_19 (by decide) (by omega) (fun c19 => ?_) (fun c19 => ?_)
    · have a1 : a = 1 := by omega
      subst a1
      refine r_aload_n dX11_count_32 rfl rfl ?_
      refine s_getR dX11_count_33 fX11_10 lysX11 rfl ?_
      refine s_getI dX11_count_36 fX11_181 (layX7 isX7_1) rfl (cl_ops hC) ?_
      refine s_iret dX11_count_39 rfl rfl ?_
      first
        | exact c_P_s (by unfold A_count; simp [*]) hZ hf
        | exact c_P_n (by unfold A_count; simp [*]) hZ hf
    · subst c19
      refine r_aload_n dX11_count_22 rfl rfl ?_
      refine s_getR dX11_count_23 fX11_10 lysX11 rfl ?_
      refine s_getI dX11_count_26 fX11_99 (layX7 isX7_1) rfl (cl_jobs hC) ?_
      refine r_goto (tgt := 39) dX11_count_29 (by decide) ?_
      refine s_iret dX11_count_39 rfl rfl ?_
      first
        | exact c_P_s (by unfold A_count; simp [*]) hZ hf
        | exact c_P_n (by unfold A_count; simp [*]) hZ hf
  · refine s_throwS dX11_count_8 dX11_count_11 dX11_count_12 dX11_count_14 dX11_count_17 thrX11_179_96 rfl (by decide) (by decide) (by decide) (Nat.le_of_ble_eq_true rfl) ?_
    exact c_P_e 1 (by unfold A_count; simp [*]) (by decide) rfl hZ hf
set_option maxRecDepth 20000 in
set_option maxHeartbeats 1000000 in
theorem c_addBreakdown {G : q_G} {s : s_T} {z : z_T} (hz : z_wf z) (hZ : c_Z z s) {m a n : Int32} : s_W G mX11_addBreakdown 8 2 12 (c_P [q_IO, q_IA, q_IS] (A_addBreakdown z m a n) s) 0 (q_ent mX11_addBreakdown [.ref 0, .int m, .int a, .int n]) [] s := by
  show s_W G mX11_addBreakdown 8 2 12 _ 0 [some (.ref 0), some (.int m), some (.int a), some (.int n)] [] s
  have hw := hz.1.1
  have hs := x_sz hw
  have hC := hZ.1
  have hf : s_fr 0 212 s s := s_fr_rf
  have ho : isX7 1 := Or.inl rfl
  refine r_iload_n dX11_addBreakdown_0 rfl rfl ?_
  refine s_S1X mX11_requireMachine dX11_addBreakdown_1 okX11_requireMachine lX11_116 npX11_requireMachine (by decide) (by decide) (by decide) (Nat.le_of_ble_eq_true rfl) (Nat.le_of_ble_eq_true rfl) c_requireMachine (fun v s1 hq => ?_) (fun E s1 hq => by obtain ⟨rfl, c9, rfl⟩ := c_rq_f hq; exact x_out rfl (s_end (c_P_e 1 (by unfold A_addBreakdown; simp [*]) (by decide) rfl hZ hf)))
  obtain ⟨rfl, c1, rfl⟩ := c_rq_t hq
  obtain ⟨m, rfl, hm, hm2⟩ := iLt_n c1
  have em := iN_n hm2
  refine r_iload_n dX11_addBreakdown_4 rfl rfl ?_
  refine n_sip 400 dX11_addBreakdown_5 (by decide) ?_
  refine s_S2I mX11_within dX11_addBreakdown_8 okX11_within lX11_138 npX11_within (by decide) (by decide) (by decide) (Nat.le_of_ble_eq_true rfl) (Nat.le_of_ble_eq_true rfl) (c_within (by decide)) (fun x s1 hq => ?_)
  obtain ⟨rfl, rfl⟩ := hq
  refine b_ifeq (tgt := 25) dX11_addBreakdown_11 (by decide) (fun c11 => ?_) (fun c11 => ?_)
  · refine s_throwS dX11_addBreakdown_25 dX11_addBreakdown_28 dX11_addBreakdown_29 dX11_addBreakdown_31 dX11_addBreakdown_34 thrX11_169_96 rfl (by decide) (by decide) (by decide) (Nat.le_of_ble_eq_true rfl) ?_
    exact c_P_e 2 (by unfold A_addBreakdown; simp [*]) (by decide) rfl hZ hf
  · obtain ⟨a, rfl, ha0, ha, ha2⟩ := iIn_n c11
    have ea := iN_n ha2
    refine r_iload_n dX11_addBreakdown_14 rfl rfl ?_
    refine n_const 1 dX11_addBreakdown_15 (by decide) ?_
    refine r_icmp_lt (tgt := 25) dX11_addBreakdown_16 (by decide) (fun c16 => ?_) (fun c16 => ?_)
    · have hn : iIn n 1 60 = false := decide_eq_false (by simp only [Int32.lt_iff_toInt_lt, Int32.le_iff_toInt_le, i_0, nI_toInt (show 1 < 2 ^ 31 by decide), nI_toInt (show 60 < 2 ^ 31 by decide)] at *; omega)
      refine s_throwS dX11_addBreakdown_25 dX11_addBreakdown_28 dX11_addBreakdown_29 dX11_addBreakdown_31 dX11_addBreakdown_34 thrX11_169_96 rfl (by decide) (by decide) (by decide) (Nat.le_of_ble_eq_true rfl) ?_
      exact c_P_e 2 (by unfold A_addBreakdown; simp [*]) (by decide) rfl hZ hf
    · refine r_iload_n dX11_addBreakdown_19 rfl rfl ?_
      refine n_bip 60 dX11_addBreakdown_20 (by decide) ?_
      refine r_icmp_le (tgt := 35) dX11_addBreakdown_22 (by decide) (fun c22 => ?_) (fun c22 => ?_)
      · have hn9 : iIn n 1 60 = true := decide_eq_true (by simp only [Int32.lt_iff_toInt_lt, Int32.le_iff_toInt_le, i_0, nI_toInt (show 1 < 2 ^ 31 by decide), nI_toInt (show 60 < 2 ^ 31 by decide)] at *; omega)
        obtain ⟨n, rfl, hn0, hn, hn2⟩ := iIn_n hn9
        have en := iN_n hn2
        have hmn := x_mn hw hm
        refine r_aload_n dX11_addBreakdown_35 rfl rfl ?_
        refine s_getR dX11_addBreakdown_36 fX11_10 lysX11 rfl ?_
        refine s_getR dX11_addBreakdown_39 fX11_171 (layX7 isX7_1) rfl ?_
        refine r_iload_n dX11_addBreakdown_42 rfl rfl ?_
        refine a_ld dX11_addBreakdown_43 (X7_breakdowns isX7_1) (by omega) (by decide) (cl_bn hC (by omega)) ?_
        refine n_const 3 dX11_addBreakdown_44 (by decide) ?_
        refine n_clt (tgt := 58) dX11_addBreakdown_45 (by decide) (by omega) (by omega) (fun c45 => ?_) (fun c45 => ?_)
        · have hb3 : ¬ z 0 (151 + m) = 3 := by omega
          refine r_aload_n dX11_addBreakdown_58 rfl rfl ?_
          refine s_getR dX11_addBreakdown_59 fX11_10 lysX11 rfl ?_
          refine r_iload_n dX11_addBreakdown_62 rfl rfl ?_
          refine r_iload_n dX11_addBreakdown_63 rfl rfl ?_
          refine r_iload_n dX11_addBreakdown_64 rfl rfl ?_
          refine s_V3I mX7_createBreakdown dX11_addBreakdown_65 okX7_createBreakdown lX11_176 npX7_createBreakdown (layX7 isX7_1) rfl (by decide) (by decide) (by decide) (Nat.le_of_ble_eq_true rfl) (Nat.le_of_ble_eq_true rfl) (c_createBreakdown ho hC hw hm (by omega)) (fun x s1 hq => ?_)
          obtain ⟨rfl, hX, hf1⟩ := hq
          have hZ := c_Z_eq hZ hX (c_eq_fr hf1 (by omega)) (z_J hz)
          have hf := s_fr_tr hf (s_fr_w hf1 (by omega) (by omega))
          refine s_iret dX11_addBreakdown_68 rfl rfl ?_
          first
            | exact c_P_s (by unfold A_addBreakdown; simp [*]) hZ hf
            | exact c_P_n (by unfold A_addBreakdown; simp [*]) hZ hf
        · have hb3 : z 0 (151 + m) = 3 := by omega
          refine s_throwS dX11_addBreakdown_48 dX11_addBreakdown_51 dX11_addBreakdown_52 dX11_addBreakdown_54 dX11_addBreakdown_57 thrX11_174_107 rfl (by decide) (by decide) (by decide) (Nat.le_of_ble_eq_true rfl) ?_
          exact c_P_e 3 (by unfold A_addBreakdown; simp [*]) (by decide) rfl hZ hf
      · have hn : iIn n 1 60 = false := decide_eq_false (by simp only [Int32.lt_iff_toInt_lt, Int32.le_iff_toInt_le, i_0, nI_toInt (show 1 < 2 ^ 31 by decide), nI_toInt (show 60 < 2 ^ 31 by decide)] at *; omega)
        refine s_throwS dX11_addBreakdown_25 dX11_addBreakdown_28 dX11_addBreakdown_29 dX11_addBreakdown_31 dX11_addBreakdown_34 thrX11_169_96 rfl (by decide) (by decide) (by decide) (Nat.le_of_ble_eq_true rfl) ?_
        exact c_P_e 2 (by unfold A_addBreakdown; simp [*]) (by decide) rfl hZ hf
set_option maxRecDepth 20000 in
set_option maxHeartbeats 1000000 in
theorem c_addOperation {G : q_G} {s : s_T} {z : z_T} (hz : z_wf z) (hZ : c_Z z s) {j m d a : Int32} : s_W G mX11_addOperation 8 3 18 (c_P [q_IO, q_IA, q_IS] (A_addOperation z j m d a) s) 0 (q_ent mX11_addOperation [.ref 0, .int j, .int m, .int d, .int a]) [] s := by
  show s_W G mX11_addOperation 8 3 18 _ 0 [some (.ref 0), some (.int j), some (.int m), some (.int d), some (.int a)] [] s
  have hw := hz.1.1
  have hs := x_sz hw
  have hC := hZ.1
  have hf : s_fr 0 212 s s := s_fr_rf
  have ho : isX7 1 := Or.inl rfl
  refine r_aload_n dX11_addOperation_0 rfl rfl ?_
  refine r_iload_n dX11_addOperation_1 rfl rfl ?_
  refine s_V1X mX11_requireJob dX11_addOperation_2 okX11_requireJob lX11_112 npX11_requireJob lysX11 rfl (by decide) (by decide) (by decide) (Nat.le_of_ble_eq_true rfl) (Nat.le_of_ble_eq_true rfl) (c_requireJob hC hw) (fun v s1 hq => ?_) (fun E s1 hq => by obtain ⟨rfl, c9, rfl⟩ := c_rq_f hq; exact x_out rfl (s_end (c_P_e 1 (by unfold A_addOperation; simp [*]) (by decide) rfl hZ hf)))
  obtain ⟨rfl, c2, rfl⟩ := c_rq_t hq
  obtain ⟨j, rfl, hj, hj2⟩ := iLt_n c2
  have ej := iN_n hj2
  refine r_iload_n dX11_addOperation_5 rfl rfl ?_
  refine s_S1X mX11_requireMachine dX11_addOperation_6 okX11_requireMachine lX11_116 npX11_requireMachine (by decide) (by decide) (by decide) (Nat.le_of_ble_eq_true rfl) (Nat.le_of_ble_eq_true rfl) c_requireMachine (fun v s1 hq => ?_) (fun E s1 hq => by obtain ⟨rfl, c9, rfl⟩ := c_rq_f hq; exact x_out rfl (s_end (c_P_e 1 (by unfold A_addOperation; simp [*]) (by decide) rfl hZ hf)))
  obtain ⟨rfl, c6, rfl⟩ := c_rq_t hq
  obtain ⟨m, rfl, hm, hm2⟩ := iLt_n c6
  have em := iN_n hm2
  refine r_iload_n dX11_addOperation_9 rfl rfl ?_
  refine s_S1I mX11_durationFits dX11_addOperation_10 okX11_durationFits lX11_119 npX11_durationFits (by decide) (by decide) (by decide) (Nat.le_of_ble_eq_true rfl) (Nat.le_of_ble_eq_true rfl) c_durationFits (fun x s1 hq => ?_)
  obtain ⟨rfl, rfl⟩ := hq
  refine b_ifeq (tgt := 24) dX11_addOperation_13 (by decide) (fun c13 => ?_) (fun c13 => ?_)
  · refine s_throwS dX11_addOperation_24 dX11_addOperation_27 dX11_addOperation_28 dX11_addOperation_30 dX11_addOperation_33 thrX11_126_96 rfl (by decide) (by decide) (by decide) (Nat.le_of_ble_eq_true rfl) ?_
    exact c_P_e 2 (by unfold A_addOperation; simp [*, iIn_iLt]) (by decide) rfl hZ hf
  · obtain ⟨d, rfl, hd0, hd, hd2⟩ := iIn_n c13
    have ed := iN_n hd2
    refine r_iload dX11_addOperation_16 rfl ?_
    refine s_S1I mX11_isFamily dX11_addOperation_18 okX11_isFamily lX11_123 npX11_isFamily (by decide) (by decide) (by decide) (Nat.le_of_ble_eq_true rfl) (Nat.le_of_ble_eq_true rfl) c_isFamily (fun x s1 hq => ?_)
    obtain ⟨rfl, rfl⟩ := hq
    refine b_ifne (tgt := 34) dX11_addOperation_21 (by decide) (fun c21 => ?_) (fun c21 => ?_)
    · obtain ⟨a, rfl, ha, ha2⟩ := iLt_n c21
      have ea := iN_n ha2
      refine r_aload_n dX11_addOperation_34 rfl rfl ?_
      refine s_getR dX11_addOperation_35 fX11_10 lysX11 rfl ?_
      refine r_iload_n dX11_addOperation_38 rfl rfl ?_
      refine r_iload_n dX11_addOperation_39 rfl rfl ?_
      refine s_V2I mX7_accepts dX11_addOperation_40 okX7_accepts lX11_128 npX7_accepts (layX7 isX7_1) rfl (by decide) (by decide) (by decide) (Nat.le_of_ble_eq_true rfl) (Nat.le_of_ble_eq_true rfl) (c_accepts ho hC hw (by omega) (by omega)) (fun x s1 hq => ?_)
      obtain ⟨rfl, rfl⟩ := hq
      refine b_ifne (tgt := 56) dX11_addOperation_43 (by decide) (fun c43 => ?_) (fun c43 => ?_)
      · have hh : z 0 (17 + j) ≠ 4 ∧ x_hm (z 0) j m (z 0 (17 + j)) = false := by simpa using c43
        obtain ⟨hh1, hh2⟩ := hh
        have hjb := x_jb hw hj
        refine r_aload_n dX11_addOperation_56 rfl rfl ?_
        refine s_getR dX11_addOperation_57 fX11_10 lysX11 rfl ?_
        refine r_iload_n dX11_addOperation_60 rfl rfl ?_
        refine r_iload_n dX11_addOperation_61 rfl rfl ?_
        refine r_iload_n dX11_addOperation_62 rfl rfl ?_
        refine r_iload dX11_addOperation_63 rfl ?_
        refine s_V4I mX7_createOperation dX11_addOperation_65 okX7_createOperation lX11_134 npX7_createOperation (layX7 isX7_1) rfl (by decide) (by decide) (by decide) (Nat.le_of_ble_eq_true rfl) (Nat.le_of_ble_eq_true rfl) (c_cCreateOperation ho hC hw hj hm (x_room hw hj hm (by omega) hh2).1 (by omega) (x_room hw hj hm (by omega) hh2).2) (fun x s1 hq => ?_)
        obtain ⟨rfl, hX, hf1⟩ := hq
        have hZ := c_Z_eq hZ hX (c_eq_fr hf1 (by omega)) (z_J hz)
        have hf := s_fr_tr hf (s_fr_w hf1 (by omega) (by omega))
        refine s_iret dX11_addOperation_68 rfl rfl ?_
        first
          | exact c_P_s (by unfold A_addOperation; simp [*, iIn_iLt]) hZ hf
          | exact c_P_n (by unfold A_addOperation; simp [*, iIn_iLt]) hZ hf
      · have hh : z 0 (17 + j) = 4 ∨ x_hm (z 0) j m (z 0 (17 + j)) = true := by have q := c43; simp at q; exact (Classical.em _).imp id q
        refine s_throwS dX11_addOperation_46 dX11_addOperation_49 dX11_addOperation_50 dX11_addOperation_52 dX11_addOperation_55 thrX11_132_107 rfl (by decide) (by decide) (by decide) (Nat.le_of_ble_eq_true rfl) ?_
        exact c_P_e 3 (by unfold A_addOperation; simp [*, iIn_iLt]) (by decide) rfl hZ hf
    · refine s_throwS dX11_addOperation_24 dX11_addOperation_27 dX11_addOperation_28 dX11_addOperation_30 dX11_addOperation_33 thrX11_126_96 rfl (by decide) (by decide) (by decide) (Nat.le_of_ble_eq_true rfl) ?_
      exact c_P_e 2 (by unfold A_addOperation; simp [*, iIn_iLt]) (by decide) rfl hZ hf
set_option maxRecDepth 20000 in
set_option maxHeartbeats 1000000 in
theorem c_property {G : q_G} {s : s_T} {z : z_T} (hz : z_wf z) (hZ : c_Z z s) {k a : Int32} : s_W G mX11_property 8 2 12 (c_P [q_IO, q_IA] (A_property z k a) s) 0 (q_ent mX11_property [.ref 0, .int k, .int a]) [] s := by
  show s_W G mX11_property 8 2 12 _ 0 [some (.ref 0), some (.int k), some (.int a)] [] s
  have hw := hz.1.1
  have hs := x_sz hw
  have hC := hZ.1
  have hf : s_fr 0 212 s s := s_fr_rf
  have ho : isX7 1 := Or.inl rfl
  refine r_aload_n dX11_property_0 rfl rfl ?_
  refine r_iload_n dX11_property_1 rfl rfl ?_
  refine s_V1X mX11_requireOperation dX11_property_2 okX11_requireOperation lX11_151 npX11_requireOperation lysX11 rfl (by decide) (by decide) (by decide) (Nat.le_of_ble_eq_true rfl) (Nat.le_of_ble_eq_true rfl) (c_requireOperation hC hw) (fun v s1 hq => ?_) (fun E s1 hq => by obtain ⟨rfl, c9, rfl⟩ := c_rq_f hq; exact x_out rfl (s_end (c_P_e 1 (by unfold A_property; simp [*]) (by decide) rfl hZ hf)))
  obtain ⟨rfl, c2, rfl⟩ := c_rq_t hq
  obtain ⟨k, rfl, hk, hk2⟩ := iLt_n c2
  have ek := iN_n hk2
  refine r_iload_n dX11_property_5 rfl rfl ?_
  by_cases cs6 : iIn a 0 5 = true
  · obtain ⟨n6, rfl, -, hn6, hn26⟩ := iIn_n cs6
    rcases (show n6 = 0 ∨ n6 = 1 ∨ n6 = 2 ∨ n6 = 3 ∨ n6 = 4 ∨ n6 = 5 by omega) with rfl | rfl | rfl | rfl | rfl | rfl
    · have en6 : iN (nI 0) = 0 := by decide
      refine r_tabIn (tgt := 44) dX11_property_6 (by decide) (by decide) rfl (by decide) ?_
      refine r_aload_n dX11_property_44 rfl rfl ?_
      refine s_getR dX11_property_45 fX11_10 lysX11 rfl ?_
      refine s_getR dX11_property_48 fX11_184 (layX7 isX7_1) rfl ?_
      refine r_iload_n dX11_property_51 rfl rfl ?_
      refine a_ld dX11_property_52 (X7_jobOf isX7_1) (by omega) (by decide) (cl_job hC (by omega)) ?_
      refine s_iret dX11_property_53 rfl rfl ?_
      first
        | exact c_P_s (by unfold A_property; simp [*, iN_n]) hZ hf
        | exact c_P_n (by unfold A_property; simp [*, iN_n]) hZ hf
    · have en6 : iN (nI 1) = 1 := by decide
      refine r_tabIn (tgt := 54) dX11_property_6 (by decide) (by decide) rfl (by decide) ?_
      refine r_aload_n dX11_property_54 rfl rfl ?_
      refine s_getR dX11_property_55 fX11_10 lysX11 rfl ?_
      refine s_getR dX11_property_58 fX11_187 (layX7 isX7_1) rfl ?_
      refine r_iload_n dX11_property_61 rfl rfl ?_
      refine a_ld dX11_property_62 (X7_machineOf isX7_1) (by omega) (by decide) (cl_mc hC (by omega)) ?_
      refine s_iret dX11_property_63 rfl rfl ?_
      first
        | exact c_P_s (by unfold A_property; simp [*, iN_n]) hZ hf
        | exact c_P_n (by unfold A_property; simp [*, iN_n]) hZ hf
    · have en6 : iN (nI 2) = 2 := by decide
      refine r_tabIn (tgt := 64) dX11_property_6 (by decide) (by decide) rfl (by decide) ?_
      refine r_aload_n dX11_property_64 rfl rfl ?_
      refine s_getR dX11_property_65 fX11_10 lysX11 rfl ?_
      refine s_getR dX11_property_68 fX11_156 (layX7 isX7_1) rfl ?_
      refine r_iload_n dX11_property_71 rfl rfl ?_
      refine a_ld dX11_property_72 (X7_durations isX7_1) (by omega) (by decide) (cl_du hC (by omega)) ?_
      refine s_iret dX11_property_73 rfl rfl ?_
      first
        | exact c_P_s (by unfold A_property; simp [*, iN_n]) hZ hf
        | exact c_P_n (by unfold A_property; simp [*, iN_n]) hZ hf
    · have en6 : iN (nI 3) = 3 := by decide
      refine r_tabIn (tgt := 74) dX11_property_6 (by decide) (by decide) rfl (by decide) ?_
      refine r_aload_n dX11_property_74 rfl rfl ?_
      refine s_getR dX11_property_75 fX11_10 lysX11 rfl ?_
      refine s_getR dX11_property_78 fX11_190 (layX7 isX7_1) rfl ?_
      refine r_iload_n dX11_property_81 rfl rfl ?_
      refine a_ld dX11_property_82 (X7_families isX7_1) (by omega) (by decide) (cl_fa hC (by omega)) ?_
      refine s_iret dX11_property_83 rfl rfl ?_
      first
        | exact c_P_s (by unfold A_property; simp [*, iN_n]) hZ hf
        | exact c_P_n (by unfold A_property; simp [*, iN_n]) hZ hf
    · have en6 : iN (nI 4) = 4 := by decide
      refine r_tabIn (tgt := 84) dX11_property_6 (by decide) (by decide) rfl (by decide) ?_
      refine r_aload_n dX11_property_84 rfl rfl ?_
      refine s_getR dX11_property_85 fX11_10 lysX11 rfl ?_
      refine s_getR dX11_property_88 fX11_193 (layX7 isX7_1) rfl ?_
      refine r_iload_n dX11_property_91 rfl rfl ?_
      refine a_ld dX11_property_92 (X7_stepOf isX7_1) (by omega) (by decide) (cl_st hC (by omega)) ?_
      refine s_iret dX11_property_93 rfl rfl ?_
      first
        | exact c_P_s (by unfold A_property; simp [*, iN_n]) hZ hf
        | exact c_P_n (by unfold A_property; simp [*, iN_n]) hZ hf
    · have en6 : iN (nI 5) = 5 := by decide
      refine r_tabIn (tgt := 94) dX11_property_6 (by decide) (by decide) rfl (by decide) ?_
      refine r_aload_n dX11_property_94 rfl rfl ?_
      refine s_getR dX11_property_95 fX11_10 lysX11 rfl ?_
      refine s_getR dX11_property_98 fX11_196 (layX7 isX7_1) rfl ?_
      refine r_aload_n dX11_property_101 rfl rfl ?_
      refine s_getR dX11_property_102 fX11_10 lysX11 rfl ?_
      refine s_getR dX11_property_105 fX11_187 (layX7 isX7_1) rfl ?_
      refine r_iload_n dX11_property_108 rfl rfl ?_
      refine a_ld dX11_property_109 (X7_machineOf isX7_1) (by omega) (by decide) (cl_mc hC (by omega)) ?_
      refine r_iload_n dX11_property_110 rfl rfl ?_
      refine s_V2I mX5_positionOf dX11_property_111 okX5_positionOf lX11_200 npX5_positionOf (layX5 (X7_orders isX7_1)) rfl (by decide) (by decide) (by decide) (Nat.le_of_ble_eq_true rfl) (Nat.le_of_ble_eq_true rfl) (c_positionOf isX5_35 (c_R_O hC) hw (x_op hw hk).2.2.2.2.2.2.1 (x_po_ok hw hk).1 (x_po_ok hw hk).2 hk) (fun x s1 hq => ?_)
      obtain ⟨rfl, rfl⟩ := hq
      refine s_iret dX11_property_114 rfl rfl ?_
      first
        | exact c_P_s (by unfold A_property; simp [*, iN_n]) hZ hf
        | exact c_P_n (by unfold A_property; simp [*, iN_n]) hZ hf
  · have cs6 : iIn a 0 5 = false := by simpa using cs6
    refine r_tabOut (tgt := 115) dX11_property_6 (by have q := of_decide_eq_false cs6; omega) (by decide) ?_
    refine s_throwS dX11_property_115 dX11_property_118 dX11_property_119 dX11_property_121 dX11_property_124 thrX11_206_96 rfl (by decide) (by decide) (by decide) (Nat.le_of_ble_eq_true rfl) ?_
    exact c_P_e 2 (by unfold A_property; simp [*, iN_n]) (by decide) rfl hZ hf
