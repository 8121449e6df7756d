/-! ===== what always holds of the state holds after each call ===== -/
theorem iIn_b {x : Int32} {a b : Nat} (h : iIn x a b = true) : a ≤ iN x ∧ iN x ≤ b := by
  obtain ⟨n, rfl, h1, h2, h3⟩ := iIn_n h
  rw [iN_n h3]; exact ⟨h1, h2⟩
theorem iLt_b {x : Int32} {b : Nat} (h : iLt x b = true) : iN x < b := by
  obtain ⟨n, rfl, h1, h3⟩ := iLt_n h
  rw [iN_n h3]; exact h1
theorem x_fu_le (K : Nat → Bool) : ∀ f k, x_fu K f k ≤ k + f
  | 0, k => Nat.le_refl _
  | f + 1, k => by
    unfold x_fu
    by_cases e : K k = false
    · rw [if_pos e]; omega
    · rw [if_neg e]; have := x_fu_le K f (k + 1); omega
theorem va_up4 {g : Nat → Nat} {B : Nat} : ∀ (k i v : Nat), v < B → g k < B → va_up g i v k < B := by
  intro k i v h1 h2
  by_cases e : k = i
  · subst e; rw [va_up_s]; exact h1
  · rw [va_up_n e]; exact h2
theorem zA_addJob {z : z_T} (hz : z_wf z) {r u w : Int32} : z_wf (A_addJob z r u w).2.2 := by
  unfold A_addJob
  by_cases c : (iIn r 0 99 && iIn u 0 200 && iIn w 0 9) = true
  · rw [if_pos c]
    rw [Bool.and_eq_true, Bool.and_eq_true] at c
    by_cases e : z 0 0 = 5
    · rw [if_pos e]; exact hz
    · rw [if_neg e]
      have := (x_sz hz.1.1).1
      exact z_wf_X hz (x_gd_addJob hz.1 (by omega) (iIn_b c.1.1).2 (iIn_b c.1.2).2 (iIn_b c.2).2)
  · rw [if_neg c]; exact hz
theorem zA_addOperation {z : z_T} (hz : z_wf z) {j m d f : Int32} : z_wf (A_addOperation z j m d f).2.2 := by
  unfold A_addOperation
  by_cases c : (iLt j (z 0 0) && iLt m 4) = true
  · rw [if_pos c]
    rw [Bool.and_eq_true] at c
    by_cases c2 : (iIn d 1 30 && iIn f 0 2) = true
    · rw [if_pos c2]
      rw [Bool.and_eq_true] at c2
      by_cases e : z 0 (17 + iN j) = 4 ∨ x_hm (z 0) (iN j) (iN m) (z 0 (17 + iN j)) = true
      · rw [if_pos e]; exact hz
      · rw [if_neg e]
        refine z_wf_X hz (x_gd_addOp hz.1 (iLt_b c.1) (iLt_b c.2) (iIn_b c2.1).1 (iIn_b c2.1).2 (by have := (iIn_b c2.2).2; omega) (fun q => e (Or.inl q)) ?_)
        cases h : x_hm (z 0) (iN j) (iN m) (z 0 (17 + iN j)) with
        | false => rfl
        | true => exact absurd (Or.inr h) e
    · rw [if_neg c2]; exact hz
  · rw [if_neg c]; exact hz
theorem zA_setJob {z : z_T} (hz : z_wf z) {j w v : Int32} : z_wf (A_setJob z j w v).2.2 := by
  unfold A_setJob
  by_cases c : iLt j (z 0 0) = true
  · rw [if_pos c]
    by_cases c2 : (iIn w 0 2 && iIn v 0 (x_jl (iN w))) = true
    · rw [if_pos c2]
      rw [Bool.and_eq_true] at c2
      exact z_wf_X hz (x_gd_setJob hz.1 (iIn_b c2.1).2 (iLt_b c) (iIn_b c2.2).2)
    · rw [if_neg c2]; exact hz
  · rw [if_neg c]; exact hz
theorem zA_setDuration {z : z_T} (hz : z_wf z) {k d : Int32} : z_wf (A_setDuration z k d).2.2 := by
  unfold A_setDuration
  by_cases c : iLt k (z 0 1) = true
  · rw [if_pos c]
    by_cases c2 : iIn d 1 30 = true
    · rw [if_pos c2]
      exact z_wf_X hz (x_gd_setDu hz.1 (iLt_b c) (iIn_b c2).1 (iIn_b c2).2)
    · rw [if_neg c2]; exact hz
  · rw [if_neg c]; exact hz
theorem zA_setSetup {z : z_T} (hz : z_wf z) {f g t : Int32} : z_wf (A_setSetup z f g t).2.2 := by
  unfold A_setSetup
  by_cases c : (iIn f 0 2 && iIn g 0 2) = true
  · rw [if_pos c]
    rw [Bool.and_eq_true] at c
    by_cases c2 : iIn t 0 9 = true
    · rw [if_pos c2]
      exact z_wf_X hz (x_gd_setSu hz.1 (by have := (iIn_b c.1).2; omega) (by have := (iIn_b c.2).2; omega) (iIn_b c2).2)
    · rw [if_neg c2]; exact hz
  · rw [if_neg c]; exact hz
theorem zA_addBreakdown {z : z_T} (hz : z_wf z) {m a n : Int32} : z_wf (A_addBreakdown z m a n).2.2 := by
  unfold A_addBreakdown
  by_cases c : iLt m 4 = true
  · rw [if_pos c]
    by_cases c2 : (iIn a 0 400 && iIn n 1 60) = true
    · rw [if_pos c2]
      rw [Bool.and_eq_true] at c2
      by_cases e : z 0 (151 + iN m) = 3
      · rw [if_pos e]; exact hz
      · rw [if_neg e]
        exact z_wf_X hz (x_gd_addBr hz.1 (iLt_b c) (iIn_b c2.1).2 (iIn_b c2.2).1 (iIn_b c2.2).2 e)
    · rw [if_neg c2]; exact hz
  · rw [if_neg c]; exact hz
theorem zA_clearBreakdowns {z : z_T} (hz : z_wf z) {m : Int32} : z_wf (A_clearBreakdowns z m).2.2 := by
  unfold A_clearBreakdowns
  by_cases c : iLt m 4 = true
  · rw [if_pos c]; exact z_wf_X hz (x_gd_clrBr hz.1 (iLt_b c))
  · rw [if_neg c]; exact hz
theorem zA_count {z : z_T} (hz : z_wf z) {w : Int32} : z_wf (A_count z w).2.2 := by
  unfold A_count; split <;> exact hz
theorem zA_property {z : z_T} (hz : z_wf z) {k w : Int32} : z_wf (A_property z k w).2.2 := by
  unfold A_property; split; split <;> exact hz; exact hz
theorem zA_order {z : z_T} (hz : z_wf z) {m p : Int32} : z_wf (A_order z m p).2.2 := by
  unfold A_order; split; split <;> exact hz; exact hz
theorem zA_time {z : z_T} (hz : z_wf z) {k w : Int32} : z_wf (A_time z k w).2.2 := by
  unfold A_time; split; split <;> exact hz; exact hz
theorem zA_makespan {z : z_T} (hz : z_wf z) : z_wf (A_makespan z).2.2 := hz
theorem zA_completion {z : z_T} (hz : z_wf z) {j : Int32} : z_wf (A_completion z j).2.2 := by
  unfold A_completion; split <;> exact hz
theorem zA_objective {z : z_T} (hz : z_wf z) {j : Int32} : z_wf (A_objective z j).2.2 := by
  unfold A_objective; split <;> exact hz
theorem zA_slack {z : z_T} (hz : z_wf z) {j : Int32} : z_wf (A_slack z j).2.2 := by
  unfold A_slack; split <;> exact hz
theorem zA_failure {z : z_T} (hz : z_wf z) {j : Int32} : z_wf (A_failure z j).2.2 := by
  unfold A_failure; split <;> exact hz
theorem zA_tabuSteps {z : z_T} (hz : z_wf z) : z_wf (A_tabuSteps z).2.2 := hz
theorem zA_bottleneck {z : z_T} (hz : z_wf z) {j : Int32} : z_wf (A_bottleneck z j).2.2 := by
  unfold A_bottleneck; split <;> exact hz
theorem zA_pathLength {z : z_T} (hz : z_wf z) : z_wf (A_pathLength z).2.2 := hz
theorem zA_blocks {z : z_T} (hz : z_wf z) : z_wf (A_blocks z).2.2 := hz
theorem zA_path {z : z_T} (hz : z_wf z) {j : Int32} : z_wf (A_path z j).2.2 := by
  unfold A_path; split <;> exact hz
theorem zA_blockLength {z : z_T} (hz : z_wf z) {j : Int32} : z_wf (A_blockLength z j).2.2 := by
  unfold A_blockLength; split <;> exact hz
theorem zA_bound {z : z_T} (hz : z_wf z) {j : Int32} : z_wf (A_bound z j).2.2 := by
  unfold A_bound; split <;> exact hz
theorem zA_lowerBound {z : z_T} (hz : z_wf z) : z_wf (A_lowerBound z).2.2 := hz
theorem zA_best {z : z_T} (hz : z_wf z) {j : Int32} : z_wf (A_best z j).2.2 := by
  unfold A_best; split <;> exact hz
theorem zA_reoptimize {z : z_T} (hz : z_wf z) {m : Int32} : z_wf (A_reoptimize z m).2.2 := by
  unfold A_reoptimize
  by_cases c : iLt m 4 = true
  · rw [if_pos c]; exact z_wf_X hz (x_bX_gd hz.1 (iLt_b c))
  · rw [if_neg c]; exact hz
theorem zA_dispatch {z : z_T} (hz : z_wf z) {m : Int32} : z_wf (A_dispatch z m).2.2 := by
  unfold A_dispatch
  by_cases c : iIn m 0 3 = true
  · rw [if_pos c]; exact z_wf_X hz (x_di_gd hz.1 (by omega))
  · rw [if_neg c]; exact hz
theorem zA_repair {z : z_T} (hz : z_wf z) {t m : Int32} : z_wf (A_repair z t m).2.2 := by
  unfold A_repair
  by_cases c : (iIn t 0 999 && iIn m 0 3) = true
  · rw [if_pos c]; rw [Bool.and_eq_true] at c; exact z_wf_X hz (x_di_gd hz.1 (iIn_b c.1).2)
  · rw [if_neg c]; exact hz
theorem zA_shiftBottlenecks {z : z_T} (hz : z_wf z) : z_wf (A_shiftBottlenecks z).2.2 := z_wf_sh hz
theorem zA_tabu {z : z_T} (hz : z_wf z) {n t : Int32} : z_wf (A_tabu z n t).2.2 := by
  unfold A_tabu
  by_cases c : (iIn n 0 20 && iIn t 0 9) = true
  · rw [if_pos c]; rw [Bool.and_eq_true] at c
    have h := t_rs_ok hz.1 (ten := iN t) (iIn_b c.1).2
    exact z_wf_tb hz h.1 h.2.1
  · rw [if_neg c]; exact hz
theorem zA_save {z : z_T} (hz : z_wf z) : z_wf (A_save z).2.2 := by
  obtain ⟨h1, h2, h3, h4, h5, h6, h7⟩ := hz
  exact ⟨h1, fun _ => h1, Nat.le_refl 1, h4, h5, h6, h7⟩
theorem zA_restore {z : z_T} (hz : z_wf z) : z_wf (A_restore z).2.2 := by
  unfold A_restore
  by_cases c : z 2 0 = 1
  · rw [if_pos c]; exact z_wf_X hz (hz.2.1 c)
  · rw [if_neg c]; exact hz
theorem zA_append {z : z_T} (hz : z_wf z) {c : Nat} (hc : c < 65536) : z_wf (A_append z c).2.2 := by
  unfold A_append
  by_cases e : z 2 1 = 80
  · rw [if_pos e]; exact hz
  · rw [if_neg e]
    obtain ⟨h1, h2, h3, h4, h5, h6, h7⟩ := hz
    refine ⟨h1, h2, h3, ⟨?_, fun k hk => ?_⟩, h5, h6, h7⟩
    · show z 2 1 + 1 ≤ 80; have := h4.1; omega
    · have hk : k < z 2 1 + 1 := hk
      show va_up (z 3) (z 2 1) c k < 65536
      by_cases e2 : k = z 2 1
      · rw [e2, va_up_s]; exact hc
      · rw [va_up_n e2]; exact h4.2 k (by omega)
theorem z_cyc_wf {z : z_T} (hz : z_wf z) {X : x_T} (h20 : X 1 ≤ 20) : z_wf (z_cyc z X) := by
  obtain ⟨h1, h2, h3, h4, h5, h6, h7⟩ := hz
  refine ⟨h1, h2, h3, h4, ⟨?_, fun k hk => ?_⟩, h6, h7⟩
  · show 3 ≤ 4; omega
  · have hk : k < 3 := hk
    show va_up (va_up (va_up (z 4) 0 1) 1 (100 + x_fu (x_kk X) (X 1) 0)) 2 (X 1 - x_ct (x_kk X) (X 1)) k < 1000000
    have h9 := x_fu_le (x_kk X) (X 1) 0
    match k, hk with
    | 0, _ => show 1 < 1000000; omega
    | 1, _ => show 100 + x_fu (x_kk X) (X 1) 0 < 1000000; omega
    | 2, _ => show X 1 - x_ct (x_kk X) (X 1) < 1000000; omega
theorem zA_ch {z : z_T} (hz : z_wf z) {X : x_T} (hw : x_wf X) : z_wf (A_ch z X).2.2 := by
  unfold A_ch
  by_cases c : x_acb X = true
  · rw [if_pos c]; exact z_wf_X hz ⟨hw, x_acb_t c⟩
  · rw [if_neg c]; exact z_cyc_wf hz (x_sz hw).2
theorem zA_swap {z : z_T} (hz : z_wf z) {m p : Int32} : z_wf (A_swap z m p).2.2 := by
  unfold A_swap
  by_cases c : iLt m 4 = true
  · rw [if_pos c]
    by_cases c2 : iLt p (z 0 (179 + iN m) - 1) = true
    · rw [if_pos c2]
      have := iLt_b c2
      exact zA_ch hz (x_pr_wf hz.1.1 (iLt_b c) (x_sw_pr hz.1.1 (iLt_b c) (by omega)))
    · rw [if_neg c2]; exact hz
  · rw [if_neg c]; exact hz
theorem zA_move {z : z_T} (hz : z_wf z) {k p : Int32} : z_wf (A_move z k p).2.2 := by
  unfold A_move
  by_cases c : iLt k (z 0 1) = true
  · rw [if_pos c]
    by_cases c2 : iLt p (z 0 (179 + z 0 (62 + iN k))) = true
    · rw [if_pos c2]
      have hm := (x_op hz.1.1 (iLt_b c)).2.2.2.2.2.2.1
      exact zA_ch hz (x_pr_wf hz.1.1 hm (x_mv_pr hz.1.1 hm (x_po_ok hz.1.1 (iLt_b c)).1 _ (iLt_b c2)))
    · rw [if_neg c2]; exact hz
  · rw [if_neg c]; exact hz
theorem zA_read {z : z_T} (hz : z_wf z) : z_wf (A_read z).2.2 := by
  have hr := hz
  obtain ⟨h1, h2, h3, h4, h5, h6, h7⟩ := hr
  cases e : w_fl (z 3) (z 2 1) 81 0 0 with
  | some q =>
    rw [A_read_f e]
    have hq := w_fl_le 81 0 0 (Nat.zero_le _) q e
    refine ⟨h1, h2, h3, ⟨Nat.zero_le _, fun k hk => absurd hk (Nat.not_lt_zero k)⟩, ⟨?_, fun k hk => ?_⟩, h6, h7⟩
    · show 2 ≤ 4; omega
    · have hk : k < 2 := hk
      show w_f2 (z 4) q k < 1000000
      match k, hk with
      | 0, _ => show 2 < 1000000; omega
      | 1, _ => show 100 + q < 1000000; omega
  | none =>
    have hok := w_ex_ok (t := z 3) (n := z 2 1) hz.1 (w_M (z 3) (z 2 1) / 3)
    cases e2 : w_ex (z 3) (z 2 1) (z 0) (w_M (z 3) (z 2 1) / 3) with
    | inl y =>
      rw [A_read_l e e2]
      rw [e2] at hok
      exact ⟨hok.1, h2, h3, ⟨Nat.zero_le _, fun k hk => absurd hk (Nat.not_lt_zero k)⟩, h5, h6, h7⟩
    | inr w =>
      rw [A_read_r e e2]
      rw [e2] at hok
      obtain ⟨q1, q2, q3, q4⟩ := hok
      have hM := x_fu_le (fun i => (w_sq (z 3) (z 2 1) i).isSome) 81 0
      have hM : w_M (z 3) (z 2 1) ≤ 0 + 81 := hM
      refine ⟨h1, h2, h3, ⟨Nat.zero_le _, fun k hk => absurd hk (Nat.not_lt_zero k)⟩, ⟨?_, fun k hk => ?_⟩, h6, h7⟩
      · show (if w.2.1 = 3 then 4 else 3) ≤ 4
        split <;> omega
      · have hk : k < (if w.2.1 = 3 then 4 else 3) := hk
        have hk : k < 4 := by split at hk <;> omega
        show w_f3 (z 4) w k < 1000000
        match k, hk with
        | 0, _ => show 3 < 1000000; omega
        | 1, _ => show 100 + w.1 < 1000000; omega
        | 2, _ => show w.2.1 < 1000000; omega
        | 3, _ => show 100 + w.2.2 < 1000000; omega
