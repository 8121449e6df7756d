section
/-! ===== the reference: the best row of a machine ===== -/
def a_us (g : Nat → Nat) (w : List Nat) (k : Nat) : Bool := w.any (fun i => decide (g i = k))
theorem a_us_nil {g : Nat → Nat} {k : Nat} : a_us g [] k = false := rfl
theorem a_us_app {g : Nat → Nat} {w : List Nat} {i k : Nat} : a_us g (w ++ [i]) k = (a_us g w k || decide (g i = k)) := by
  unfold a_us
  rw [List.any_append]
  simp
/-- the first places of a row are set -/
def x_vp (n : Nat) (w : List Nat) : Prop := (∀ i, i < w.length → x_gt w i < n) ∧ (∀ i, i < w.length → ∀ j, j < w.length → x_gt w i = x_gt w j → i = j)
theorem x_vp_mem {n : Nat} {w : List Nat} (h : x_vp n w) {v : Nat} (hv : v ∈ w) : v < n := by
  obtain ⟨i, hi, e⟩ := x_gt_mem hv
  rw [← e]
  exact h.1 i hi
theorem x_vp_app {n : Nat} {w : List Nat} {i : Nat} (h : x_vp n w) (hi : i < n) (hc : w.contains i = false) : x_vp n (w ++ [i]) := by
  have e : (w ++ [i]).length = w.length + 1 := by rw [List.length_append]; rfl
  have hni : ∀ a, a < w.length → x_gt w a ≠ i := fun a ha z => by
    have hm : i ∈ w := by
      unfold x_gt at z
      rw [List.getD_eq_getElem?_getD, List.getElem?_eq_getElem ha] at z
      have z : w[a] = i := z
      rw [← z]
      exact List.getElem_mem ha
    rw [List.contains_iff_mem.mpr hm] at hc
    cases hc
  refine ⟨fun a ha => ?_, fun a ha b hb q => ?_⟩
  · rw [e] at ha
    rw [x_gt_app]
    by_cases e1 : a = w.length
    · rw [if_pos e1]; exact hi
    · rw [if_neg e1]; exact h.1 a (by omega)
  · rw [e] at ha hb
    rw [x_gt_app, x_gt_app] at q
    by_cases e1 : a = w.length
    · by_cases e2 : b = w.length
      · omega
      · rw [if_pos e1, if_neg e2] at q
        exact absurd q.symm (hni b (by omega))
    · by_cases e2 : b = w.length
      · rw [if_neg e1, if_pos e2] at q
        exact absurd q (hni a (by omega))
      · rw [if_neg e1, if_neg e2] at q
        exact h.2 a (by omega) b (by omega) q
theorem a_us_ct {X : x_T} (hw : x_wf X) {m k : Nat} {w : List Nat} (hm : m < 4) (hv : x_vp (X (179 + m)) w) (hk : k < X 1) (hkm : X (62 + k) = m) : a_us (x_so X m) w k = w.contains (x_ct (x_om X m) k) := by
  have h := x_so_ct hw hm hk hkm
  rw [Bool.eq_iff_iff, List.contains_iff_mem]
  unfold a_us
  rw [List.any_eq_true]
  constructor
  · rintro ⟨i, hi, e⟩
    have e := of_decide_eq_true e
    have := x_so_in hw hm (x_vp_mem hv hi) h.1 (e.trans h.2.symm)
    rw [← this]; exact hi
  · intro hi
    exact ⟨_, hi, decide_eq_true h.2⟩
def t_Y (X : x_T) (m : Nat) (w : List Nat) (Y : x_T) : Prop := (∀ k, k < 183 + 5 * m ∨ 183 + 5 * m + X (179 + m) ≤ k → Y k = X k) ∧ (∀ i, i < w.length → Y (183 + 5 * m + i) = x_so X m (x_gt w i))
def t_S (X : x_T) (op : Nat → Bool) (m hu : Nat) (w : List Nat) (b : Option (Nat × List Nat)) (s : s_T) : Prop :=
  (∃ Y, m_R Y s ∧ t_Y X m w Y) ∧ (∀ k, k < 20 → s 225 k = bI (a_us (x_so X m) w k)) ∧ s 212 21 = oI (b.map Prod.fst) ∧ (∀ c, b = some c → c.1 ≤ 1400 ∧ ∀ i, i < X (179 + m) → s 224 i = nI (x_so X m (x_gt c.2 i))) ∧ m_op op s ∧ m_H none hu s
def t_F (s s1 : s_T) : Prop := (∀ j, j ≠ 21 → s1 212 j = s 212 j) ∧ ∀ k, k ≠ 212 → k ≠ 213 → k ≠ 218 → k ≠ 219 → k ≠ 224 → k ≠ 225 → s1 k = s k
theorem t_F_rf {s : s_T} : t_F s s := ⟨fun _ _ => rfl, fun _ _ _ _ _ _ _ => rfl⟩
theorem t_F_tr {s s1 s2 : s_T} (h1 : t_F s s1) (h2 : t_F s1 s2) : t_F s s2 := ⟨fun j hj => (h2.1 j hj).trans (h1.1 j hj), fun k a b c d e f => (h2.2 k a b c d e f).trans (h1.2 k a b c d e f)⟩
theorem t_F_fr {lo hi : Nat} {s s1 : s_T} (h : s_fr lo hi s s1) (hb : (213 ≤ lo ∧ hi ≤ 214) ∨ (218 ≤ lo ∧ hi ≤ 220) ∨ (224 ≤ lo ∧ hi ≤ 226)) : t_F s s1 := ⟨fun j _ => by rw [h 212 (by omega)], fun k a b c d e f => h k (by omega)⟩
theorem t_F_put {s s1 : s_T} {v : Int32} (h : s1 212 = upd (s 212) 21 v) (hf : s_fr 212 (212 + 1) s s1) : t_F s s1 := ⟨fun j hj => by rw [h, pk_un hj], fun k a b c d e f => hf k (by omega)⟩
theorem m_op_F {op : Nat → Bool} {s s1 : s_T} (h : m_op op s) (hf : t_F s s1) : m_op op s1 := fun m hm => by rw [hf.2 220 (by omega) (by omega) (by omega) (by omega) (by omega) (by omega)]; exact h m hm
theorem m_H_F {hk : Option Nat} {hu : Nat} {s s1 : s_T} (h : m_H hk hu s) (hf : t_F s s1) : m_H hk hu s1 := by
  unfold m_H
  rw [hf.1 14 (by omega), hf.1 15 (by omega)]
  exact h
theorem t_Y_pt {X Y : x_T} {m : Nat} {w : List Nat} (h : t_Y X m w Y) (hl : w.length = X (179 + m)) : Y = x_pt X m w := by
  funext k
  by_cases e : 183 + 5 * m ≤ k ∧ k < 183 + 5 * m + X (179 + m)
  · obtain ⟨p, rfl⟩ : ∃ p, k = 183 + 5 * m + p := ⟨k - (183 + 5 * m), by omega⟩
    rw [x_pt_i (by omega)]
    exact h.2 p (by omega)
  · rw [h.1 k (by omega), x_pt_o (by omega)]
theorem t_Y_set {X Y : x_T} {m i : Nat} {w : List Nat} (h : t_Y X m w Y) (hl : w.length < X (179 + m)) : t_Y X m (w ++ [i]) (va_up Y (183 + 5 * m + w.length) (x_so X m i)) := by
  refine ⟨fun k hk => by rw [va_up_n (by omega)]; exact h.1 k hk, fun a ha => ?_⟩
  rw [List.length_append] at ha
  have ha : a < w.length + 1 := ha
  rw [x_gt_app]
  by_cases e : a = w.length
  · subst e; rw [va_up_s, if_pos rfl]
  · rw [va_up_n (by omega), if_neg e]; exact h.2 a (by omega)
theorem t_Y_pre {X Y : x_T} {m i : Nat} {w : List Nat} (h : t_Y X m (w ++ [i]) Y) : t_Y X m w Y := by
  refine ⟨h.1, fun a ha => ?_⟩
  have q := h.2 a (by rw [List.length_append]; show a < w.length + 1; omega)
  rw [x_gt_app, if_neg (by omega)] at q
  exact q
set_option maxRecDepth 20000 in
set_option maxHeartbeats 1000000 in
theorem c_tryOrders {G : q_G} {X : x_T} {op : Nat → Bool} {m hu : Nat} (hw : x_wf X) (hm : m < 4) (hu2 : hu ≤ 50000) : ∀ (d : Nat) (w : List Nat) (b : Option (Nat × List Nat)) (s : s_T), w.length + d = X (179 + m) → x_vp (X (179 + m)) w → t_S X op m hu w b s → s_W G mX12_tryOrders (7 + d) 0 0 (c_V (fun s1 => t_S X op m hu w (x_fd X op m (a_cm (X (179 + m)) d w) b) s1 ∧ t_F s s1)) 0 (q_ent mX12_tryOrders [.ref 212, .int (nI m), .int (nI w.length)]) [] s := by
  have hs := x_sz hw
  have h5 := (x_mn hw hm).2
  intro d
  induction d with
  | zero =>
    intro w b s hlen hv9 hS
    show s_W G mX12_tryOrders (7 + 0) 0 0 _ 0 [some (.ref 212), some (.int (nI m)), some (.int (nI w.length)), none, none, none] [] s
    obtain ⟨⟨Y, hM, hY⟩, hus, hb1, hb2, hop, hH⟩ := hS
    have hwl : w.length = X (179 + m) := by omega
    have hYp := t_Y_pt hY hwl
    have hvl : x_vl (X (179 + m)) w := ⟨hwl, fun i hi => hv9.1 i (by omega), fun i hi j hj e => hv9.2 i (by omega) j (by omega) e⟩
    have hw2 := x_pt_wf hw hm hvl
    have hYo : ∀ k, k < 183 → Y k = X k := fun k hk => hY.1 k (by omega)
    have hYi : ∀ i, i < X (179 + m) → Y (183 + 5 * m + i) = x_so X m (x_gt w i) := fun i hi => hY.2 i (by omega)
    cases hv : x_sp (x_pt X m w) op none 0 with
    | none =>
      cases b with
      | none =>
        refine r_aload_n dX12_tryOrders_0 rfl rfl ?_
        refine s_getR dX12_tryOrders_1 fX12_9 lysX12 rfl ?_
        refine n_sip 179 dX12_tryOrders_4 (by decide) ?_
        refine r_iload_n dX12_tryOrders_7 rfl rfl ?_
        refine n_add dX12_tryOrders_8 ?_
        refine m_ld dX12_tryOrders_9 hM (by omega) ?_
        rw [hYo _ (by omega)]
        refine r_istore_n dX12_tryOrders_10 rfl (by decide) rfl ?_
        refine r_iload_n dX12_tryOrders_11 rfl rfl ?_
        refine r_iload_n dX12_tryOrders_12 rfl rfl ?_
        refine n_cne (tgt := 79) dX12_tryOrders_13 (by decide) (by omega) (by omega) (fun c13 => ?_) (fun c13 => ?_)
        · exact absurd hwl c13
        · refine r_aload_n dX12_tryOrders_16 rfl rfl ?_
          refine s_V0I mX12_makespanNow dX12_tryOrders_17 okX12_makespanNow lX12_188 npX12_makespanNow lysX12 rfl (by omega) (by decide) (by decide) (Nat.le_of_ble_eq_true rfl) (Nat.le_of_ble_eq_true rfl) (c_makespanNow hM hop hH (by rw [hYp]; exact hw2) hu2 (fun q z => by cases z)) (fun x s1 hq => ?_)
          rw [hYp] at hq
          obtain ⟨K9, r9, t9, rk9, e9, -, -, -, -, hf7⟩ := hq
          rw [x_sp_n (hu := hu) (hu' := 0) hw2, hv] at e9
          have e9 : x = -1 := e9
          subst e9
          refine r_istore dX12_tryOrders_20 (by decide) rfl ?_
          refine r_iload dX12_tryOrders_22 rfl ?_
          refine r_if_lt (tgt := 78) dX12_tryOrders_24 (by decide) (fun c24 => ?_) (fun c24 => ?_)
          · refine s_vret dX12_tryOrders_78 rfl ?_
            refine ⟨rfl, ⟨⟨Y, m_R_fr hM hf7 (Or.inl (by omega)), hY⟩, fun k hk => by rw [hf7 225 (by omega)]; exact hus k hk, ?_, ?_, m_op_F hop (t_F_fr hf7 (by omega)), m_H_F hH (t_F_fr hf7 (by omega))⟩, t_F_fr hf7 (by omega)⟩
            · show s1 212 21 = oI ((x_fs X op m w _).map Prod.fst)
              rw [x_fs_n hv, hf7 212 (by omega)]; exact hb1
            · intro c9 hc9
              have hc9 : x_fs X op m w _ = some c9 := hc9
              rw [x_fs_n hv] at hc9
              rw [hf7 224 (by omega)]
              exact hb2 c9 hc9
          · exact absurd (by decide) c24
      | some c =>
        have hcb := (hb2 c rfl).1
        refine r_aload_n dX12_tryOrders_0 rfl rfl ?_
        refine s_getR dX12_tryOrders_1 fX12_9 lysX12 rfl ?_
        refine n_sip 179 dX12_tryOrders_4 (by decide) ?_
        refine r_iload_n dX12_tryOrders_7 rfl rfl ?_
        refine n_add dX12_tryOrders_8 ?_
        refine m_ld dX12_tryOrders_9 hM (by omega) ?_
        rw [hYo _ (by omega)]
        refine r_istore_n dX12_tryOrders_10 rfl (by decide) rfl ?_
        refine r_iload_n dX12_tryOrders_11 rfl rfl ?_
        refine r_iload_n dX12_tryOrders_12 rfl rfl ?_
        refine n_cne (tgt := 79) dX12_tryOrders_13 (by decide) (by omega) (by omega) (fun c13 => ?_) (fun c13 => ?_)
        · exact absurd hwl c13
        · refine r_aload_n dX12_tryOrders_16 rfl rfl ?_
          refine s_V0I mX12_makespanNow dX12_tryOrders_17 okX12_makespanNow lX12_188 npX12_makespanNow lysX12 rfl (by omega) (by decide) (by decide) (Nat.le_of_ble_eq_true rfl) (Nat.le_of_ble_eq_true rfl) (c_makespanNow hM hop hH (by rw [hYp]; exact hw2) hu2 (fun q z => by cases z)) (fun x s1 hq => ?_)
          rw [hYp] at hq
          obtain ⟨K9, r9, t9, rk9, e9, -, -, -, -, hf7⟩ := hq
          rw [x_sp_n (hu := hu) (hu' := 0) hw2, hv] at e9
          have e9 : x = -1 := e9
          subst e9
          refine r_istore dX12_tryOrders_20 (by decide) rfl ?_
          refine r_iload dX12_tryOrders_22 rfl ?_
          refine r_if_lt (tgt := 78) dX12_tryOrders_24 (by decide) (fun c24 => ?_) (fun c24 => ?_)
          · refine s_vret dX12_tryOrders_78 rfl ?_
            refine ⟨rfl, ⟨⟨Y, m_R_fr hM hf7 (Or.inl (by omega)), hY⟩, fun k hk => by rw [hf7 225 (by omega)]; exact hus k hk, ?_, ?_, m_op_F hop (t_F_fr hf7 (by omega)), m_H_F hH (t_F_fr hf7 (by omega))⟩, t_F_fr hf7 (by omega)⟩
            · show s1 212 21 = oI ((x_fs X op m w _).map Prod.fst)
              rw [x_fs_n hv, hf7 212 (by omega)]; exact hb1
            · intro c9 hc9
              have hc9 : x_fs X op m w _ = some c9 := hc9
              rw [x_fs_n hv] at hc9
              rw [hf7 224 (by omega)]
              exact hb2 c9 hc9
          · exact absurd (by decide) c24
    | some v =>
      cases b with
      | none =>
        have hvb := x_sp_bd hw2 hv
        refine r_aload_n dX12_tryOrders_0 rfl rfl ?_
        refine s_getR dX12_tryOrders_1 fX12_9 lysX12 rfl ?_
        refine n_sip 179 dX12_tryOrders_4 (by decide) ?_
        refine r_iload_n dX12_tryOrders_7 rfl rfl ?_
        refine n_add dX12_tryOrders_8 ?_
        refine m_ld dX12_tryOrders_9 hM (by omega) ?_
        rw [hYo _ (by omega)]
        refine r_istore_n dX12_tryOrders_10 rfl (by decide) rfl ?_
        refine r_iload_n dX12_tryOrders_11 rfl rfl ?_
        refine r_iload_n dX12_tryOrders_12 rfl rfl ?_
        refine n_cne (tgt := 79) dX12_tryOrders_13 (by decide) (by omega) (by omega) (fun c13 => ?_) (fun c13 => ?_)
        · exact absurd hwl c13
        · refine r_aload_n dX12_tryOrders_16 rfl rfl ?_
          refine s_V0I mX12_makespanNow dX12_tryOrders_17 okX12_makespanNow lX12_188 npX12_makespanNow lysX12 rfl (by omega) (by decide) (by decide) (Nat.le_of_ble_eq_true rfl) (Nat.le_of_ble_eq_true rfl) (c_makespanNow hM hop hH (by rw [hYp]; exact hw2) hu2 (fun q z => by cases z)) (fun x s1 hq => ?_)
          rw [hYp] at hq
          obtain ⟨K9, r9, t9, rk9, e9, -, -, -, -, hf7⟩ := hq
          rw [x_sp_n (hu := hu) (hu' := 0) hw2, hv] at e9
          have e9 : x = nI v := e9
          subst e9
          refine r_istore dX12_tryOrders_20 (by decide) rfl ?_
          refine r_iload dX12_tryOrders_22 rfl ?_
          refine r_if_lt (tgt := 78) dX12_tryOrders_24 (by decide) (fun c24 => ?_) (fun c24 => ?_)
          · exact absurd c24 (nI_nn2 (by omega))
          · refine r_aload_n dX12_tryOrders_27 rfl rfl ?_
            refine s_getI dX12_tryOrders_28 fX12_246 lysX12 rfl (show s1 212 21 = -1 by rw [hf7 212 (by omega)]; exact hb1) ?_
            refine r_if_lt (tgt := 43) dX12_tryOrders_31 (by decide) (fun c31 => ?_) (fun c31 => ?_)
            · refine r_aload_n dX12_tryOrders_43 rfl rfl ?_
              refine r_iload dX12_tryOrders_44 rfl ?_
              refine a_put dX12_tryOrders_46 gX12_246 lysX12 rfl rfl rfl (fun s2 hs2 hf2 => ?_)
              refine n_const 0 dX12_tryOrders_49 (by decide) ?_
              refine r_istore dX12_tryOrders_50 (by decide) rfl ?_
              have hF0 : t_F s s1 := t_F_fr hf7 (by omega)
              have cl : ∀ f2 i u2, m_R Y u2 → (∀ p, p < i → u2 224 p = nI (x_so X m (x_gt w p))) → t_F s1 u2 → u2 212 21 = nI v → u2 225 = s 225 → i ≤ X (179 + m) → X (179 + m) < i + f2 → s_W G mX12_tryOrders (7 + 0) 0 0 (c_V (fun s1 => t_S X op m hu w (x_fd X op m (a_cm (X (179 + m)) 0 w) none) s1 ∧ t_F s s1)) 52 [some (.ref 212), some (.int (nI m)), some (.int (nI w.length)), some (.int (nI (X (179 + m)))), some (.int (nI v)), some (.int (nI i))] [] u2 := by
                intro f2
                induction f2 with
                | zero =>
                  intro i u2 hM1 hA hF h21 h225 hi hme
                  exact absurd hme (by omega)
                | succ f2 ih2 =>
                  intro i u2 hM1 hA hF h21 h225 hi hme
                  refine r_iload dX12_tryOrders_52 rfl ?_
                  refine r_iload_n dX12_tryOrders_54 rfl rfl ?_
                  refine n_cge (tgt := 78) dX12_tryOrders_55 (by decide) (by omega) (by omega) (fun c55 => ?_) (fun c55 => ?_)
                  · refine s_vret dX12_tryOrders_78 rfl ?_
                    have e9 : i = X (179 + m) := by omega
                    subst e9
                    refine ⟨rfl, ⟨⟨Y, hM1, hY⟩, fun k hk => ?_, ?_, ?_, m_op_F hop (t_F_tr hF0 hF), m_H_F hH (t_F_tr hF0 hF)⟩, t_F_tr hF0 hF⟩
                    · rw [h225]; exact hus k hk
                    · show u2 212 21 = oI ((x_fs X op m w _).map Prod.fst)
                      rw [x_fs_f hv]; exact h21
                    · intro c9 hc9
                      have hc9 : x_fs X op m w _ = some c9 := hc9
                      rw [x_fs_f hv] at hc9
                      cases hc9
                      exact ⟨hvb, hA⟩
                  · refine r_aload_n dX12_tryOrders_58 rfl rfl ?_
                    refine s_getR dX12_tryOrders_59 fX12_49 lysX12 rfl ?_
                    refine r_iload dX12_tryOrders_62 rfl ?_
                    refine r_aload_n dX12_tryOrders_64 rfl rfl ?_
                    refine r_iload_n dX12_tryOrders_65 rfl rfl ?_
                    refine r_iload dX12_tryOrders_66 rfl ?_
                    refine s_V2I mX12_ordered dX12_tryOrders_68 okX12_ordered lX12_142 npX12_ordered lysX12 rfl (by omega) (by decide) (by decide) (Nat.le_of_ble_eq_true rfl) (Nat.le_of_ble_eq_true rfl) (c_ordered hM1 (by omega) (by omega)) (fun x s1 hq => ?_)
                    obtain ⟨rfl, rfl⟩ := hq
                    rw [hYi i (by omega)]
                    refine a_st dX12_tryOrders_71 rfl (by omega) (by decide) (fun s5 hs5 hf5 => ?_)
                    refine n_inc dX12_tryOrders_72 rfl (n_i1 _) (by decide) rfl ?_
                    refine r_goto (tgt := 52) dX12_tryOrders_75 (by decide) ?_
                    refine ih2 (i + 1) s5 (m_R_fr hM1 hf5 (Or.inl (by omega))) (fun p hp => ?_) (t_F_tr hF (t_F_fr hf5 (by omega))) (by rw [hf5 212 (by omega)]; exact h21) (by rw [hf5 225 (by omega)]; exact h225) (by omega) (by omega)
                    rw [hs5]
                    by_cases e : p = i
                    · subst e; rw [pk_us]
                    · rw [pk_un e]; exact hA p (by omega)
              exact cl (X (179 + m) + 1) 0 s2 (m_R_fr (m_R_fr hM hf7 (Or.inl (by omega))) hf2 (Or.inr (by omega))) (fun p hp => absurd hp (by omega)) (t_F_put hs2 hf2) (by rw [hs2, pk_us]) (by rw [hf2 225 (by omega), hf7 225 (by omega)]) (by omega) (by omega)
            · exact absurd (by decide) c31
      | some c =>
        have hvb := x_sp_bd hw2 hv
        have hcb := (hb2 c rfl).1
        refine r_aload_n dX12_tryOrders_0 rfl rfl ?_
        refine s_getR dX12_tryOrders_1 fX12_9 lysX12 rfl ?_
        refine n_sip 179 dX12_tryOrders_4 (by decide) ?_
        refine r_iload_n dX12_tryOrders_7 rfl rfl ?_
        refine n_add dX12_tryOrders_8 ?_
        refine m_ld dX12_tryOrders_9 hM (by omega) ?_
        rw [hYo _ (by omega)]
        refine r_istore_n dX12_tryOrders_10 rfl (by decide) rfl ?_
        refine r_iload_n dX12_tryOrders_11 rfl rfl ?_
        refine r_iload_n dX12_tryOrders_12 rfl rfl ?_
        refine n_cne (tgt := 79) dX12_tryOrders_13 (by decide) (by omega) (by omega) (fun c13 => ?_) (fun c13 => ?_)
        · exact absurd hwl c13
        · refine r_aload_n dX12_tryOrders_16 rfl rfl ?_
          refine s_V0I mX12_makespanNow dX12_tryOrders_17 okX12_makespanNow lX12_188 npX12_makespanNow lysX12 rfl (by omega) (by decide) (by decide) (Nat.le_of_ble_eq_true rfl) (Nat.le_of_ble_eq_true rfl) (c_makespanNow hM hop hH (by rw [hYp]; exact hw2) hu2 (fun q z => by cases z)) (fun x s1 hq => ?_)
          rw [hYp] at hq
          obtain ⟨K9, r9, t9, rk9, e9, -, -, -, -, hf7⟩ := hq
          rw [x_sp_n (hu := hu) (hu' := 0) hw2, hv] at e9
          have e9 : x = nI v := e9
          subst e9
          refine r_istore dX12_tryOrders_20 (by decide) rfl ?_
          refine r_iload dX12_tryOrders_22 rfl ?_
          refine r_if_lt (tgt := 78) dX12_tryOrders_24 (by decide) (fun c24 => ?_) (fun c24 => ?_)
          · exact absurd c24 (nI_nn2 (by omega))
          · refine r_aload_n dX12_tryOrders_27 rfl rfl ?_
            refine s_getI dX12_tryOrders_28 fX12_246 lysX12 rfl (show s1 212 21 = nI c.1 by rw [hf7 212 (by omega)]; exact hb1) ?_
            refine r_if_lt (tgt := 43) dX12_tryOrders_31 (by decide) (fun c31 => ?_) (fun c31 => ?_)
            · exact absurd c31 (nI_nn2 (by omega))
            · refine r_iload dX12_tryOrders_34 rfl ?_
              refine r_aload_n dX12_tryOrders_36 rfl rfl ?_
              refine s_getI dX12_tryOrders_37 fX12_246 lysX12 rfl (show s1 212 21 = nI c.1 by rw [hf7 212 (by omega)]; exact hb1) ?_
              refine n_cge (tgt := 78) dX12_tryOrders_40 (by decide) (by omega) (by omega) (fun c40 => ?_) (fun c40 => ?_)
              · refine s_vret dX12_tryOrders_78 rfl ?_
                refine ⟨rfl, ⟨⟨Y, m_R_fr hM hf7 (Or.inl (by omega)), hY⟩, fun k hk => by rw [hf7 225 (by omega)]; exact hus k hk, ?_, ?_, m_op_F hop (t_F_fr hf7 (by omega)), m_H_F hH (t_F_fr hf7 (by omega))⟩, t_F_fr hf7 (by omega)⟩
                · show s1 212 21 = oI ((x_fs X op m w _).map Prod.fst)
                  rw [x_fs_k hv (by omega), hf7 212 (by omega)]; exact hb1
                · intro c9 hc9
                  have hc9 : x_fs X op m w _ = some c9 := hc9
                  rw [x_fs_k hv (by omega)] at hc9
                  rw [hf7 224 (by omega)]
                  exact hb2 c9 hc9
              · refine r_aload_n dX12_tryOrders_43 rfl rfl ?_
                refine r_iload dX12_tryOrders_44 rfl ?_
                refine a_put dX12_tryOrders_46 gX12_246 lysX12 rfl rfl rfl (fun s2 hs2 hf2 => ?_)
                refine n_const 0 dX12_tryOrders_49 (by decide) ?_
                refine r_istore dX12_tryOrders_50 (by decide) rfl ?_
                have hF0 : t_F s s1 := t_F_fr hf7 (by omega)
                have cl : ∀ f2 i u2, m_R Y u2 → (∀ p, p < i → u2 224 p = nI (x_so X m (x_gt w p))) → t_F s1 u2 → u2 212 21 = nI v → u2 225 = s 225 → i ≤ X (179 + m) → X (179 + m) < i + f2 → s_W G mX12_tryOrders (7 + 0) 0 0 (c_V (fun s1 => t_S X op m hu w (x_fd X op m (a_cm (X (179 + m)) 0 w) (some c)) s1 ∧ t_F s s1)) 52 [some (.ref 212), some (.int (nI m)), some (.int (nI w.length)), some (.int (nI (X (179 + m)))), some (.int (nI v)), some (.int (nI i))] [] u2 := by
                  intro f2
                  induction f2 with
                  | zero =>
                    intro i u2 hM1 hA hF h21 h225 hi hme
                    exact absurd hme (by omega)
                  | succ f2 ih2 =>
                    intro i u2 hM1 hA hF h21 h225 hi hme
                    refine r_iload dX12_tryOrders_52 rfl ?_
                    refine r_iload_n dX12_tryOrders_54 rfl rfl ?_
                    refine n_cge (tgt := 78) dX12_tryOrders_55 (by decide) (by omega) (by omega) (fun c55 => ?_) (fun c55 => ?_)
                    · refine s_vret dX12_tryOrders_78 rfl ?_
                      have e9 : i = X (179 + m) := by omega
                      subst e9
                      refine ⟨rfl, ⟨⟨Y, hM1, hY⟩, fun k hk => ?_, ?_, ?_, m_op_F hop (t_F_tr hF0 hF), m_H_F hH (t_F_tr hF0 hF)⟩, t_F_tr hF0 hF⟩
                      · rw [h225]; exact hus k hk
                      · show u2 212 21 = oI ((x_fs X op m w _).map Prod.fst)
                        rw [x_fs_y hv (by omega)]; exact h21
                      · intro c9 hc9
                        have hc9 : x_fs X op m w _ = some c9 := hc9
                        rw [x_fs_y hv (by omega)] at hc9
                        cases hc9
                        exact ⟨hvb, hA⟩
                    · refine r_aload_n dX12_tryOrders_58 rfl rfl ?_
                      refine s_getR dX12_tryOrders_59 fX12_49 lysX12 rfl ?_
                      refine r_iload dX12_tryOrders_62 rfl ?_
                      refine r_aload_n dX12_tryOrders_64 rfl rfl ?_
                      refine r_iload_n dX12_tryOrders_65 rfl rfl ?_
                      refine r_iload dX12_tryOrders_66 rfl ?_
                      refine s_V2I mX12_ordered dX12_tryOrders_68 okX12_ordered lX12_142 npX12_ordered lysX12 rfl (by omega) (by decide) (by decide) (Nat.le_of_ble_eq_true rfl) (Nat.le_of_ble_eq_true rfl) (c_ordered hM1 (by omega) (by omega)) (fun x s1 hq => ?_)
                      obtain ⟨rfl, rfl⟩ := hq
                      rw [hYi i (by omega)]
                      refine a_st dX12_tryOrders_71 rfl (by omega) (by decide) (fun s5 hs5 hf5 => ?_)
                      refine n_inc dX12_tryOrders_72 rfl (n_i1 _) (by decide) rfl ?_
                      refine r_goto (tgt := 52) dX12_tryOrders_75 (by decide) ?_
                      refine ih2 (i + 1) s5 (m_R_fr hM1 hf5 (Or.inl (by omega))) (fun p hp => ?_) (t_F_tr hF (t_F_fr hf5 (by omega))) (by rw [hf5 212 (by omega)]; exact h21) (by rw [hf5 225 (by omega)]; exact h225) (by omega) (by omega)
                      rw [hs5]
                      by_cases e : p = i
                      · subst e; rw [pk_us]
                      · rw [pk_un e]; exact hA p (by omega)
                exact cl (X (179 + m) + 1) 0 s2 (m_R_fr (m_R_fr hM hf7 (Or.inl (by omega))) hf2 (Or.inr (by omega))) (fun p hp => absurd hp (by omega)) (t_F_put hs2 hf2) (by rw [hs2, pk_us]) (by rw [hf2 225 (by omega), hf7 225 (by omega)]) (by omega) (by omega)
  | succ d ih =>
    intro w b s hlen hv9 hS
    show s_W G mX12_tryOrders (7 + (d + 1)) 0 0 _ 0 [some (.ref 212), some (.int (nI m)), some (.int (nI w.length)), none, none, none] [] s
    have hwl : w.length < X (179 + m) := by omega
    have lp : ∀ f2 k (bb : a_B) (L5 : Option Value) u1, t_S X op m hu w bb u1 → t_F s u1 → x_fd X op m (a_fm (fun i => if w.contains i = true then [] else a_cm (X (179 + m)) d (w ++ [i])) (x_ct (x_om X m) k) (X (179 + m) - (x_ct (x_om X m) k))) bb = x_fd X op m (a_cm (X (179 + m)) (d + 1) w) b → k ≤ X 1 → X 1 < k + f2 → s_W G mX12_tryOrders (7 + (d + 1)) 0 0 (c_V (fun s1 => t_S X op m hu w (x_fd X op m (a_cm (X (179 + m)) (d + 1) w) b) s1 ∧ t_F s s1)) 82 [some (.ref 212), some (.int (nI m)), some (.int (nI w.length)), some (.int (nI (X (179 + m)))), some (.int (nI k)), L5] [] u1 := by
      intro f2
      induction f2 with
      | zero =>
        intro k bb L5 u1 hS hF hX hk hme
        exact absurd hme (by omega)
      | succ f2 ih2 =>
        intro k bb L5 u1 hS hF hX hk hme
        obtain ⟨⟨Y, hM, hY⟩, hus, hb1, hb2, hop, hH⟩ := hS
        have hYo : ∀ k, k < 183 → Y k = X k := fun k hk => hY.1 k (by omega)
        refine r_iload dX12_tryOrders_82 rfl ?_
        refine r_aload_n dX12_tryOrders_84 rfl rfl ?_
        refine s_getR dX12_tryOrders_85 fX12_9 lysX12 rfl ?_
        refine n_const 1 dX12_tryOrders_88 (by decide) ?_
        refine m_ld dX12_tryOrders_89 hM (by omega) ?_
        rw [hYo _ (by omega)]
        refine n_cge (tgt := 155) dX12_tryOrders_90 (by decide) (by omega) (by omega) (fun c90 => ?_) (fun c90 => ?_)
        · refine s_vret dX12_tryOrders_155 rfl ?_
          have e9 : k = X 1 := by omega
          subst e9
          refine ⟨rfl, ?_, hF⟩
          rw [x_om_n hw hm, Nat.sub_self] at hX
          have hX : bb = x_fd X op m (a_cm (X (179 + m)) (d + 1) w) b := hX
          rw [← hX]
          exact ⟨⟨Y, hM, hY⟩, hus, hb1, hb2, hop, hH⟩
        · have hkb := x_op hw c90
          refine r_aload_n dX12_tryOrders_93 rfl rfl ?_
          refine s_getR dX12_tryOrders_94 fX12_9 lysX12 rfl ?_
          refine n_bip 62 dX12_tryOrders_97 (by decide) ?_
          refine r_iload dX12_tryOrders_99 rfl ?_
          refine n_add dX12_tryOrders_101 ?_
          refine m_ld dX12_tryOrders_102 hM (by omega) ?_
          rw [hYo _ (by omega)]
          refine r_iload_n dX12_tryOrders_103 rfl rfl ?_
          refine n_cne (tgt := 149) dX12_tryOrders_104 (by decide) (by omega) (by omega) (fun c104 => ?_) (fun c104 => ?_)
          · refine n_inc dX12_tryOrders_149 rfl (n_i1 _) (by decide) rfl ?_
            refine r_goto (tgt := 82) dX12_tryOrders_152 (by decide) ?_
            first
              | (refine ih2 (k + 1) bb _ u1 ⟨⟨Y, hM, hY⟩, hus, hb1, hb2, hop, hH⟩ hF ?_ (by omega) (by omega)
                 rw [x_ct_f (fun z => c104 (of_decide_eq_true z))]; exact hX)
              | (refine ih2 (k + 1) bb _ u1 ⟨⟨Y, hM, hY⟩, hus, hb1, hb2, hop, hH⟩ hF ?_ (by omega) (by omega)
                 rw [a_us_ct hw hm hv9 c90 c104] at c114
                 rw [hns, ← hX, hfm, x_fd_app]
                 congr 1
                 show bb = x_fd X op m (if _ then _ else _) bb
                 rw [if_pos c114]; rfl)
              | (refine ih2 (k + 1) _ _ s5 ⟨⟨Y6, m_R_fr hM6 hf5 (Or.inl (by omega)), t_Y_pre hY6⟩, fun q hq => ?_, by rw [hf5 212 (by omega)]; exact hb16, fun c9 hc9 => by rw [hf5 224 (by omega)]; exact hb26 c9 hc9, m_op_F hop6 (t_F_fr hf5 (by omega)), m_H_F hH6 (t_F_fr hf5 (by omega))⟩ (t_F_tr hF (t_F_tr (t_F_tr (t_F_fr hf2 (by omega)) (t_F_fr hf3 (by omega))) (t_F_tr hF6 (t_F_fr hf5 (by omega))))) ?_ (by omega) (by omega)
                 · rw [hs5]
                   by_cases e : q = k
                   · subst e; rw [pk_us, a_us_ct hw hm hv9 c90 c104, hcn]
                   · rw [pk_un e, hus6 q hq, a_us_app, hct.2, decide_eq_false (fun z => e z.symm), Bool.or_false]
                 · rw [hns, ← hX, hfm, x_fd_app]
                   congr 1
                   show _ = x_fd X op m (if _ then _ else _) bb
                   rw [if_neg (by rw [hcn]; decide)])
          · have hct := x_so_ct hw hm c90 c104
            have hfm : a_fm (fun i => if w.contains i = true then [] else a_cm (X (179 + m)) d (w ++ [i])) (x_ct (x_om X m) k) (X (179 + m) - (x_ct (x_om X m) k)) = (fun i => if w.contains i = true then [] else a_cm (X (179 + m)) d (w ++ [i])) (x_ct (x_om X m) k) ++ a_fm (fun i => if w.contains i = true then [] else a_cm (X (179 + m)) d (w ++ [i])) ((x_ct (x_om X m) k) + 1) (X (179 + m) - ((x_ct (x_om X m) k) + 1)) := by
              have h9 := hct.1
              rw [show X (179 + m) - (x_ct (x_om X m) k) = X (179 + m) - ((x_ct (x_om X m) k) + 1) + 1 by omega]; rfl
            have hns : x_ct (x_om X m) (k + 1) = (x_ct (x_om X m) k) + 1 := x_ct_t (decide_eq_true c104)
            refine r_aload_n dX12_tryOrders_107 rfl rfl ?_
            refine s_getR dX12_tryOrders_108 fX12_52 lysX12 rfl ?_
            refine r_iload dX12_tryOrders_111 rfl ?_
            refine a_zld dX12_tryOrders_113 rfl (by omega) (by decide) (hus k (by omega)) ?_
            refine b_ifne (tgt := 149) dX12_tryOrders_114 (by decide) (fun c114 => ?_) (fun c114 => ?_)
            · refine n_inc dX12_tryOrders_149 rfl (n_i1 _) (by decide) rfl ?_
              refine r_goto (tgt := 82) dX12_tryOrders_152 (by decide) ?_
              first
                | (refine ih2 (k + 1) bb _ u1 ⟨⟨Y, hM, hY⟩, hus, hb1, hb2, hop, hH⟩ hF ?_ (by omega) (by omega)
                   rw [x_ct_f (fun z => c104 (of_decide_eq_true z))]; exact hX)
                | (refine ih2 (k + 1) bb _ u1 ⟨⟨Y, hM, hY⟩, hus, hb1, hb2, hop, hH⟩ hF ?_ (by omega) (by omega)
                   rw [a_us_ct hw hm hv9 c90 c104] at c114
                   rw [hns, ← hX, hfm, x_fd_app]
                   congr 1
                   show bb = x_fd X op m (if _ then _ else _) bb
                   rw [if_pos c114]; rfl)
                | (refine ih2 (k + 1) _ _ s5 ⟨⟨Y6, m_R_fr hM6 hf5 (Or.inl (by omega)), t_Y_pre hY6⟩, fun q hq => ?_, by rw [hf5 212 (by omega)]; exact hb16, fun c9 hc9 => by rw [hf5 224 (by omega)]; exact hb26 c9 hc9, m_op_F hop6 (t_F_fr hf5 (by omega)), m_H_F hH6 (t_F_fr hf5 (by omega))⟩ (t_F_tr hF (t_F_tr (t_F_tr (t_F_fr hf2 (by omega)) (t_F_fr hf3 (by omega))) (t_F_tr hF6 (t_F_fr hf5 (by omega))))) ?_ (by omega) (by omega)
                   · rw [hs5]
                     by_cases e : q = k
                     · subst e; rw [pk_us, a_us_ct hw hm hv9 c90 c104, hcn]
                     · rw [pk_un e, hus6 q hq, a_us_app, hct.2, decide_eq_false (fun z => e z.symm), Bool.or_false]
                   · rw [hns, ← hX, hfm, x_fd_app]
                     congr 1
                     show _ = x_fd X op m (if _ then _ else _) bb
                     rw [if_neg (by rw [hcn]; decide)])
            · have hcn : w.contains (x_ct (x_om X m) k) = false := by rw [← a_us_ct hw hm hv9 c90 c104]; exact c114
              refine r_aload_n dX12_tryOrders_117 rfl rfl ?_
              refine s_getR dX12_tryOrders_118 fX12_52 lysX12 rfl ?_
              refine r_iload dX12_tryOrders_121 rfl ?_
              refine n_const 1 dX12_tryOrders_123 (by decide) ?_
              refine a_zst (b := true) dX12_tryOrders_124 rfl (by omega) (by decide) (fun s2 hs2 hf2 => ?_)
              replace hM := m_R_fr hM hf2 (Or.inl (by omega))
              refine r_aload_n dX12_tryOrders_125 rfl rfl ?_
              refine r_iload_n dX12_tryOrders_126 rfl rfl ?_
              refine r_iload_n dX12_tryOrders_127 rfl rfl ?_
              refine r_iload dX12_tryOrders_128 rfl ?_
              refine s_V3V mX12_setOrdered dX12_tryOrders_130 okX12_setOrdered lX12_114 npX12_setOrdered lysX12 rfl (by omega) (by decide) (by decide) (Nat.le_of_ble_eq_true rfl) (Nat.le_of_ble_eq_true rfl) (c_setOrdered hM (by omega) (by omega)) (fun s1 hq => ?_)
              obtain ⟨hM3, hf3⟩ := hq
              have hS3 : t_S X op m hu (w ++ [(x_ct (x_om X m) k)]) bb s1 := by
                refine ⟨⟨_, hM3, ?_⟩, fun q hq => ?_, by rw [hf3 212 (by omega), hf2 212 (by omega)]; exact hb1, fun c9 hc9 => by rw [hf3 224 (by omega), hf2 224 (by omega)]; exact hb2 c9 hc9, m_op_F hop (t_F_tr (t_F_fr hf2 (by omega)) (t_F_fr hf3 (by omega))), m_H_F hH (t_F_tr (t_F_fr hf2 (by omega)) (t_F_fr hf3 (by omega)))⟩
                · have q := t_Y_set (i := (x_ct (x_om X m) k)) hY (by omega)
                  rw [hct.2] at q
                  exact q
                · rw [hf3 225 (by omega), hs2, a_us_app, hct.2]
                  by_cases e : q = k
                  · subst e; rw [pk_us, decide_eq_true rfl, Bool.or_true]
                  · rw [pk_un e, decide_eq_false (fun z => e z.symm), Bool.or_false]; exact hus q hq
              have q9 := ih (w ++ [(x_ct (x_om X m) k)]) bb s1 (by rw [List.length_append]; show w.length + 1 + d = _; omega) (x_vp_app hv9 hct.1 hcn) hS3
              rw [List.length_append] at q9
              refine r_aload_n dX12_tryOrders_133 rfl rfl ?_
              refine r_iload_n dX12_tryOrders_134 rfl rfl ?_
              refine r_iload_n dX12_tryOrders_135 rfl rfl ?_
              refine n_const 1 dX12_tryOrders_136 (by decide) ?_
              refine n_add dX12_tryOrders_137 ?_
              refine s_V2V mX12_tryOrders dX12_tryOrders_138 okX12_tryOrders lX12_249 npX12_tryOrders lysX12 rfl (by omega) (by decide) (by decide) (Nat.le_of_ble_eq_true rfl) (Nat.le_of_ble_eq_true rfl) q9 (fun s1 hq => ?_)
              obtain ⟨⟨⟨Y6, hM6, hY6⟩, hus6, hb16, hb26, hop6, hH6⟩, hF6⟩ := hq
              refine r_aload_n dX12_tryOrders_141 rfl rfl ?_
              refine s_getR dX12_tryOrders_142 fX12_52 lysX12 rfl ?_
              refine r_iload dX12_tryOrders_145 rfl ?_
              refine n_const 0 dX12_tryOrders_147 (by decide) ?_
              refine a_zst (b := false) dX12_tryOrders_148 rfl (by omega) (by decide) (fun s5 hs5 hf5 => ?_)
              refine n_inc dX12_tryOrders_149 rfl (n_i1 _) (by decide) rfl ?_
              refine r_goto (tgt := 82) dX12_tryOrders_152 (by decide) ?_
              first
                | (refine ih2 (k + 1) bb _ u1 ⟨⟨Y, hM, hY⟩, hus, hb1, hb2, hop, hH⟩ hF ?_ (by omega) (by omega)
                   rw [x_ct_f (fun z => c104 (of_decide_eq_true z))]; exact hX)
                | (refine ih2 (k + 1) bb _ u1 ⟨⟨Y, hM, hY⟩, hus, hb1, hb2, hop, hH⟩ hF ?_ (by omega) (by omega)
                   rw [a_us_ct hw hm hv9 c90 c104] at c114
                   rw [hns, ← hX, hfm, x_fd_app]
                   congr 1
                   show bb = x_fd X op m (if _ then _ else _) bb
                   rw [if_pos c114]; rfl)
                | (refine ih2 (k + 1) _ _ s5 ⟨⟨Y6, m_R_fr hM6 hf5 (Or.inl (by omega)), t_Y_pre hY6⟩, fun q hq => ?_, by rw [hf5 212 (by omega)]; exact hb16, fun c9 hc9 => by rw [hf5 224 (by omega)]; exact hb26 c9 hc9, m_op_F hop6 (t_F_fr hf5 (by omega)), m_H_F hH6 (t_F_fr hf5 (by omega))⟩ (t_F_tr hF (t_F_tr (t_F_tr (t_F_fr hf2 (by omega)) (t_F_fr hf3 (by omega))) (t_F_tr hF6 (t_F_fr hf5 (by omega))))) ?_ (by omega) (by omega)
                   · rw [hs5]
                     by_cases e : q = k
                     · subst e; rw [pk_us, a_us_ct hw hm hv9 c90 c104, hcn]
                     · rw [pk_un e, hus6 q hq, a_us_app, hct.2, decide_eq_false (fun z => e z.symm), Bool.or_false]
                   · rw [hns, ← hX, hfm, x_fd_app]
                     congr 1
                     show _ = x_fd X op m (if _ then _ else _) bb
                     rw [if_neg (by rw [hcn]; decide)])
    have hS9 := hS
    obtain ⟨⟨Y, hM, hY⟩, hus, hb1, hb2, hop, hH⟩ := hS
    have hYo : ∀ k, k < 183 → Y k = X k := fun k hk => hY.1 k (by omega)
    refine r_aload_n dX12_tryOrders_0 rfl rfl ?_
    refine s_getR dX12_tryOrders_1 fX12_9 lysX12 rfl ?_
    refine n_sip 179 dX12_tryOrders_4 (by decide) ?_
    refine r_iload_n dX12_tryOrders_7 rfl rfl ?_
    refine n_add dX12_tryOrders_8 ?_
    refine m_ld dX12_tryOrders_9 hM (by omega) ?_
    rw [hYo _ (by omega)]
    refine r_istore_n dX12_tryOrders_10 rfl (by decide) rfl ?_
    refine r_iload_n dX12_tryOrders_11 rfl rfl ?_
    refine r_iload_n dX12_tryOrders_12 rfl rfl ?_
    refine n_cne (tgt := 79) dX12_tryOrders_13 (by decide) (by omega) (by omega) (fun c13 => ?_) (fun c13 => ?_)
    · refine n_const 0 dX12_tryOrders_79 (by decide) ?_
      refine r_istore dX12_tryOrders_80 (by decide) rfl ?_
      exact lp (X 1 + 1) 0 b _ s hS9 t_F_rf rfl (by omega) (by omega)
    · exact absurd c13 (by omega)
end
