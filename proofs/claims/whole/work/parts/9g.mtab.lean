section
/-! ===== the reference: tabu search ===== -/
theorem n_rem {G : q_G} {M : q_M} {d C S : Nat} {P : q_R → s_T → Prop} {pc : Nat} {L : List (Option Value)} {st : List Value} {s : s_T} {a b : Nat} (dc : decode M.2.2.1 pc = .ok (.irem, 1)) (hb : 0 < b) (ha : a < 2 ^ 31) (hb2 : b < 2 ^ 31) (K : s_W G M d C S P (pc + 1) L (.int (nI (a % b)) :: st) s) : s_W G M d C S P pc L (.int (nI b) :: .int (nI a) :: st) s :=
  r_irem dc (fun q => by have := (nI_eq (b := 0) hb2 (by decide)).mp q; omega) (by
    rw [pk_div ha hb hb2, pk_mul, pk_sub (Nat.div_mul_le_self a b), show a - a / b * b = a % b by have := Nat.div_add_mod a b; rw [Nat.mul_comm] at this; omega]
    exact K)
def e_F (s s1 : s_T) : Prop := (∀ j, j ≠ 10 → j ≠ 17 → s1 212 j = s 212 j) ∧ ∀ k, k ≠ 212 → k ≠ 213 → k ≠ 218 → k ≠ 219 → k ≠ 221 → k ≠ 227 → k ≠ 228 → k ≠ 229 → s1 k = s k
theorem e_F_rf {s : s_T} : e_F s s := ⟨fun _ _ _ => rfl, fun _ _ _ _ _ _ _ _ _ => rfl⟩
theorem e_F_tr {s s1 s2 : s_T} (h1 : e_F s s1) (h2 : e_F s1 s2) : e_F s s2 := ⟨fun j a b => (h2.1 j a b).trans (h1.1 j a b), fun k a b c d e f g h => (h2.2 k a b c d e f g h).trans (h1.2 k a b c d e f g h)⟩
theorem e_F_fr {lo hi : Nat} {s s1 : s_T} (h : s_fr lo hi s s1) (hb : (213 ≤ lo ∧ hi ≤ 214) ∨ (218 ≤ lo ∧ hi ≤ 220) ∨ (227 ≤ lo ∧ hi ≤ 230)) : e_F s s1 := ⟨fun j _ _ => by rw [h 212 (by omega)], fun k a b c d e f g h' => h k (by omega)⟩
theorem e_F_put {s s1 : s_T} {v : Int32} (h : s1 212 = upd (s 212) 10 v) (hf : s_fr 212 (212 + 1) s s1) : e_F s s1 := ⟨fun j a b => by rw [h, pk_un a], fun k a b c d e f g h' => hf k (by omega)⟩
theorem m_op_e {op : Nat → Bool} {s s1 : s_T} (h : m_op op s) (hf : e_F s s1) : m_op op s1 := fun m hm => by rw [hf.2 220 (by omega) (by omega) (by omega) (by omega) (by omega) (by omega) (by omega) (by omega)]; exact h m hm
theorem m_H_e {hk : Option Nat} {hu : Nat} {s s1 : s_T} (h : m_H hk hu s) (hf : e_F s s1) : m_H hk hu s1 := by
  unfold m_H
  rw [hf.1 14 (by omega) (by omega), hf.1 15 (by omega) (by omega)]
  exact h
theorem m_O_tb {z : z_T} {X : x_T} {n : Nat} {s s1 : s_T} (h : m_O z s) (hf : e_F s s1) (h10 : s1 212 10 = nI n) : m_O (z_tb z X n) s1 := by
  obtain ⟨a1, a2, a3, a4, a5, a6, a7, a8, a9, a10, ⟨hu, a11, a12⟩, a13⟩ := h
  have e : ∀ k, 214 ≤ k → k ≤ 217 → s1 k = s k := fun k h1 h2 => hf.2 k (by omega) (by omega) (by omega) (by omega) (by omega) (by omega) (by omega) (by omega)
  refine ⟨?_, ?_, ?_, ?_, ?_, ?_, ?_, ?_, h10, m_op_e a10 hf, ⟨hu, a11, m_H_e a12 hf⟩, ?_⟩
  · rw [e 214 (by omega) (by omega)]; exact a1
  · rw [hf.1 2 (by omega) (by omega)]; exact a2
  · rw [hf.1 5 (by omega) (by omega)]; exact a3
  · rw [e 215 (by omega) (by omega)]; exact a4
  · rw [hf.1 7 (by omega) (by omega)]; exact a5
  · rw [e 216 (by omega) (by omega)]; exact a6
  · rw [hf.1 9 (by omega) (by omega)]; exact a7
  · rw [e 217 (by omega) (by omega)]; exact a8
  · rw [hf.2 225 (by omega) (by omega) (by omega) (by omega) (by omega) (by omega) (by omega) (by omega)]; exact a13
def t_P (X : x_T) (m p a : Nat) : Prop := a + 1 < x_pl X ∧ x_fw X a = X (183 + 5 * m + p) ∧ x_fw X (a + 1) = X (183 + 5 * m + (p + 1))
noncomputable def t_sb (X : x_T) (m p n : Nat) : Bool := decide (p + 1 < X (179 + m)) && t_ex (fun a => decide (a + 1 < x_pl X ∧ x_fw X a = X (183 + 5 * m + p) ∧ x_fw X (a + 1) = X (183 + 5 * m + (p + 1)))) n
theorem t_sb_s {X : x_T} {m p n : Nat} : t_sb X m p (n + 1) = (t_sb X m p n || (decide (p + 1 < X (179 + m)) && decide (n + 1 < x_pl X ∧ x_fw X n = X (183 + 5 * m + p) ∧ x_fw X (n + 1) = X (183 + 5 * m + (p + 1))))) := by
  unfold t_sb
  show (_ && (t_ex _ n || _)) = _
  rw [Bool.and_or_distrib_left]
theorem t_sb_sw {X : x_T} (hg : x_gd X) {m p n : Nat} (hn : x_pl X ≤ n + 1) : t_sb X m p n = t_sw X m p := by
  rw [Bool.eq_iff_iff, t_sw_i hg]
  unfold t_sb
  rw [Bool.and_eq_true, t_ex_i, decide_eq_true_iff]
  constructor
  · rintro ⟨h1, a, _, h2⟩; exact ⟨h1, a, of_decide_eq_true h2⟩
  · rintro ⟨h1, a, h2⟩; exact ⟨h1, a, by omega, decide_eq_true h2⟩
/-- the neighbours that a pair of the path makes -/
theorem t_nb {X : x_T} (hg : x_gd X) {m p n : Nat} (hm : m < 4) (hn : n + 1 < x_pl X) : (p + 1 < X (179 + m) ∧ (n + 1 < x_pl X ∧ x_fw X n = X (183 + 5 * m + p) ∧ x_fw X (n + 1) = X (183 + 5 * m + (p + 1)))) ↔ (X (62 + x_fw X n) = X (62 + x_fw X (n + 1)) ∧ x_po X (x_fw X (n + 1)) = x_po X (x_fw X n) + 1 ∧ m = X (62 + x_fw X (n + 1)) ∧ p = x_po X (x_fw X n)) := by
  have ha := x_fw_lt hg (i := n) (by omega)
  have hb := x_fw_lt hg hn
  have pa := x_po_ok hg.1 ha
  have pb := x_po_ok hg.1 hb
  constructor
  · rintro ⟨h1, -, h2, h3⟩
    have e1 := x_po_eq hg.1 hm (p := p) (by omega)
    have e2 := x_po_eq hg.1 hm h1
    have e3 := (x_od hg.1 hm (p := p) (by omega)).2
    have e4 := (x_od hg.1 hm h1).2
    rw [h2, h3]
    exact ⟨e3.trans e4.symm, by rw [e1, e2], e4.symm, e1.symm⟩
  · rintro ⟨h1, h2, h3, h4⟩
    rw [h1] at pa
    rw [← h3] at pa pb
    rw [h2] at pb
    subst h4
    exact ⟨pb.1, hn, pa.2.symm, pb.2.symm⟩
set_option maxRecDepth 20000 in
set_option maxHeartbeats 1000000 in
theorem c_findSwaps {G : q_G} {s : s_T} {X : x_T} (hM : m_R X s) (hop : m_op n0 s) (hH : ∃ hu, hu ≤ 50000 ∧ m_H none hu s) (hg : x_gd X) : s_W G mX12_findSwaps 9 0 0 (c_V (fun s1 => (∀ m p, m < 4 → p < 5 → s1 229 (5 * m + p) = bI (t_sw X m p)) ∧ m_R X s1 ∧ (∀ j, j ≠ 17 → s1 212 j = s 212 j) ∧ (∀ k, k ≠ 212 → k ≠ 218 → k ≠ 219 → k ≠ 221 → k ≠ 229 → s1 k = s k))) 0 (q_ent mX12_findSwaps [.ref 212]) [] s := by
  show s_W G mX12_findSwaps 9 0 0 _ 0 [some (.ref 212), none, none] [] s
  have hw := hg.1
  have hs := x_sz hw
  have hpl := (x_pl_ok hg).1
  have bl : ∀ f i (L2 : Option Value) u1, (∀ m p, m < 4 → p < 5 → u1 229 (5 * m + p) = bI (t_sb X m p i)) → m_R X u1 → m_pa X u1 → (∀ j, j ≠ 17 → u1 212 j = s 212 j) → (∀ k, k ≠ 212 → k ≠ 218 → k ≠ 219 → k ≠ 221 → k ≠ 229 → u1 k = s k) → i ≤ 20 → 20 < i + f → s_W G mX12_findSwaps 9 0 0 (c_V (fun s1 => (∀ m p, m < 4 → p < 5 → s1 229 (5 * m + p) = bI (t_sw X m p)) ∧ m_R X s1 ∧ (∀ j, j ≠ 17 → s1 212 j = s 212 j) ∧ (∀ k, k ≠ 212 → k ≠ 218 → k ≠ 219 → k ≠ 221 → k ≠ 229 → s1 k = s k))) 27 [some (.ref 212), some (.int (nI (i + 1))), L2] [] u1 := by
    intro f
    induction f with
    | zero =>
      intro i L2 u1 hA hM hpa r1 r2 hi hme
      exact absurd hme (by omega)
    | succ f ih =>
      intro i L2 u1 hA hM hpa r1 r2 hi hme
      refine r_iload_n dX12_findSwaps_27 rfl rfl ?_
      refine r_aload_n dX12_findSwaps_28 rfl rfl ?_
      refine s_getI dX12_findSwaps_29 fX12_199 lysX12 rfl hpa.1 ?_
      refine n_cge (tgt := 120) dX12_findSwaps_32 (by decide) (by omega) (by omega) (fun c32 => ?_) (fun c32 => ?_)
      · refine s_vret dX12_findSwaps_120 rfl ?_
        exact ⟨rfl, fun m p hm hp => by rw [hA m p hm hp, t_sb_sw hg (by omega)], hM, r1, r2⟩
      · have hi1 : i < x_pl X := by omega
        have ha := x_fw_lt hg hi1
        have hb := x_fw_lt hg c32
        have hao := x_op hw ha
        have hbo := x_op hw hb
        have hpa9 := x_po_ok hw ha
        have hpb9 := x_po_ok hw hb
        have h5a := (x_mn hw hao.2.2.2.2.2.2.1).2
        have h5b := (x_mn hw hbo.2.2.2.2.2.2.1).2
        refine r_aload_n dX12_findSwaps_35 rfl rfl ?_
        refine s_getR dX12_findSwaps_36 fX12_9 lysX12 rfl ?_
        refine n_bip 62 dX12_findSwaps_39 (by decide) ?_
        refine r_aload_n dX12_findSwaps_41 rfl rfl ?_
        refine r_iload_n dX12_findSwaps_42 rfl rfl ?_
        refine s_V1I mX12_onPath dX12_findSwaps_43 okX12_onPath lX12_205 npX12_onPath lysX12 rfl (by decide) (by decide) (by decide) (Nat.le_of_ble_eq_true rfl) (Nat.le_of_ble_eq_true rfl) (c_onPath hg hpa c32) (fun x s1 hq => ?_)
        obtain ⟨e9, rfl⟩ := hq
        replace e9 := e9.symm
        subst e9
        refine n_add dX12_findSwaps_46 ?_
        refine m_ld dX12_findSwaps_47 hM (by omega) ?_
        refine r_istore_n dX12_findSwaps_48 rfl (by decide) rfl ?_
        refine r_aload_n dX12_findSwaps_49 rfl rfl ?_
        refine s_getR dX12_findSwaps_50 fX12_9 lysX12 rfl ?_
        refine n_bip 62 dX12_findSwaps_53 (by decide) ?_
        refine r_aload_n dX12_findSwaps_55 rfl rfl ?_
        refine r_iload_n dX12_findSwaps_56 rfl rfl ?_
        refine n_const 1 dX12_findSwaps_57 (by decide) ?_
        refine n_sub dX12_findSwaps_58 (by omega) ?_
        rw [Nat.add_sub_cancel]
        refine s_V1I mX12_onPath dX12_findSwaps_59 okX12_onPath lX12_205 npX12_onPath lysX12 rfl (by decide) (by decide) (by decide) (Nat.le_of_ble_eq_true rfl) (Nat.le_of_ble_eq_true rfl) (c_onPath hg hpa hi1) (fun x s1 hq => ?_)
        obtain ⟨e9, rfl⟩ := hq
        replace e9 := e9.symm
        subst e9
        refine n_add dX12_findSwaps_62 ?_
        refine m_ld dX12_findSwaps_63 hM (by omega) ?_
        refine r_iload_n dX12_findSwaps_64 rfl rfl ?_
        refine n_cne (tgt := 114) dX12_findSwaps_65 (by decide) (by omega) (by omega) (fun c65 => ?_) (fun c65 => ?_)
        · refine n_inc dX12_findSwaps_114 rfl (n_i1 _) (by decide) rfl ?_
          refine r_goto (tgt := 27) dX12_findSwaps_117 (by decide) ?_
          first
            | (refine ih (i + 1) _ u1 (fun m p hm hp => ?_) hM hpa r1 r2 (by omega) (by omega)
               rw [t_sb_s, hA m p hm hp]
               have q := t_nb hg (m := m) (p := p) (n := i) hm c32
               rw [show (decide (p + 1 < X (179 + m)) && decide (i + 1 < x_pl X ∧ x_fw X i = X (183 + 5 * m + p) ∧ x_fw X (i + 1) = X (183 + 5 * m + (p + 1)))) = false from Bool.eq_false_iff.mpr (fun z => by
                 rw [Bool.and_eq_true, decide_eq_true_iff, decide_eq_true_iff] at z
                 have q2 := q.mp z
                 omega), Bool.or_false])
            | (refine ih (i + 1) _ s5 (fun m p hm hp => ?_) (m_R_fr hM hf5 (Or.inl (by omega))) ⟨by rw [hf5 212 (by omega)]; exact hpa.1, fun j hj => by rw [hf5 221 (by omega)]; exact hpa.2 j hj⟩ (fun j hj => by rw [hf5 212 (by omega)]; exact r1 j hj) (fun k h1 h2 h3 h4 h5 => by rw [hf5 k (by omega)]; exact r2 k h1 h2 h3 h4 h5) (by omega) (by omega)
               rw [t_sb_s, hs5]
               have q := t_nb hg (m := m) (p := p) (n := i) hm c32
               by_cases e : m = X (62 + x_fw X (i + 1)) ∧ p = x_po X (x_fw X i)
               · rw [show (decide (p + 1 < X (179 + m)) && decide (i + 1 < x_pl X ∧ x_fw X i = X (183 + 5 * m + p) ∧ x_fw X (i + 1) = X (183 + 5 * m + (p + 1)))) = true from by
                   rw [Bool.and_eq_true, decide_eq_true_iff, decide_eq_true_iff]
                   exact q.mpr ⟨c65, c90, e⟩, Bool.or_true, ← e.1, ← e.2, pk_us]
               · rw [pk_un (by omega), hA m p hm hp, show (decide (p + 1 < X (179 + m)) && decide (i + 1 < x_pl X ∧ x_fw X i = X (183 + 5 * m + p) ∧ x_fw X (i + 1) = X (183 + 5 * m + (p + 1)))) = false from Bool.eq_false_iff.mpr (fun z => by
                   rw [Bool.and_eq_true, decide_eq_true_iff, decide_eq_true_iff] at z
                   exact e (q.mp z).2.2), Bool.or_false])
        · refine r_aload_n dX12_findSwaps_68 rfl rfl ?_
          refine r_aload_n dX12_findSwaps_69 rfl rfl ?_
          refine r_iload_n dX12_findSwaps_70 rfl rfl ?_
          refine s_V1I mX12_onPath dX12_findSwaps_71 okX12_onPath lX12_205 npX12_onPath lysX12 rfl (by decide) (by decide) (by decide) (Nat.le_of_ble_eq_true rfl) (Nat.le_of_ble_eq_true rfl) (c_onPath hg hpa c32) (fun x s1 hq => ?_)
          obtain ⟨e9, rfl⟩ := hq
          replace e9 := e9.symm
          subst e9
          refine s_V1I mX12_positionOf dX12_findSwaps_74 okX12_positionOf lX12_147 npX12_positionOf lysX12 rfl (by decide) (by decide) (by decide) (Nat.le_of_ble_eq_true rfl) (Nat.le_of_ble_eq_true rfl) (c_mPositionOf hM hw hb (x_po_ok hw hb).1 (x_po_ok hw hb).2) (fun x s1 hq => ?_)
          obtain ⟨e9, rfl⟩ := hq
          replace e9 := e9.symm
          subst e9
          refine r_aload_n dX12_findSwaps_77 rfl rfl ?_
          refine r_aload_n dX12_findSwaps_78 rfl rfl ?_
          refine r_iload_n dX12_findSwaps_79 rfl rfl ?_
          refine n_const 1 dX12_findSwaps_80 (by decide) ?_
          refine n_sub dX12_findSwaps_81 (by omega) ?_
          rw [Nat.add_sub_cancel]
          refine s_V1I mX12_onPath dX12_findSwaps_82 okX12_onPath lX12_205 npX12_onPath lysX12 rfl (by decide) (by decide) (by decide) (Nat.le_of_ble_eq_true rfl) (Nat.le_of_ble_eq_true rfl) (c_onPath hg hpa hi1) (fun x s1 hq => ?_)
          obtain ⟨e9, rfl⟩ := hq
          replace e9 := e9.symm
          subst e9
          refine s_V1I mX12_positionOf dX12_findSwaps_85 okX12_positionOf lX12_147 npX12_positionOf lysX12 rfl (by decide) (by decide) (by decide) (Nat.le_of_ble_eq_true rfl) (Nat.le_of_ble_eq_true rfl) (c_mPositionOf hM hw ha (x_po_ok hw ha).1 (x_po_ok hw ha).2) (fun x s1 hq => ?_)
          obtain ⟨e9, rfl⟩ := hq
          replace e9 := e9.symm
          subst e9
          refine n_const 1 dX12_findSwaps_88 (by decide) ?_
          refine n_add dX12_findSwaps_89 ?_
          refine n_cne (tgt := 114) dX12_findSwaps_90 (by decide) (by omega) (by omega) (fun c90 => ?_) (fun c90 => ?_)
          · refine n_inc dX12_findSwaps_114 rfl (n_i1 _) (by decide) rfl ?_
            refine r_goto (tgt := 27) dX12_findSwaps_117 (by decide) ?_
            first
              | (refine ih (i + 1) _ u1 (fun m p hm hp => ?_) hM hpa r1 r2 (by omega) (by omega)
                 rw [t_sb_s, hA m p hm hp]
                 have q := t_nb hg (m := m) (p := p) (n := i) hm c32
                 rw [show (decide (p + 1 < X (179 + m)) && decide (i + 1 < x_pl X ∧ x_fw X i = X (183 + 5 * m + p) ∧ x_fw X (i + 1) = X (183 + 5 * m + (p + 1)))) = false from Bool.eq_false_iff.mpr (fun z => by
                   rw [Bool.and_eq_true, decide_eq_true_iff, decide_eq_true_iff] at z
                   have q2 := q.mp z
                   omega), Bool.or_false])
              | (refine ih (i + 1) _ s5 (fun m p hm hp => ?_) (m_R_fr hM hf5 (Or.inl (by omega))) ⟨by rw [hf5 212 (by omega)]; exact hpa.1, fun j hj => by rw [hf5 221 (by omega)]; exact hpa.2 j hj⟩ (fun j hj => by rw [hf5 212 (by omega)]; exact r1 j hj) (fun k h1 h2 h3 h4 h5 => by rw [hf5 k (by omega)]; exact r2 k h1 h2 h3 h4 h5) (by omega) (by omega)
                 rw [t_sb_s, hs5]
                 have q := t_nb hg (m := m) (p := p) (n := i) hm c32
                 by_cases e : m = X (62 + x_fw X (i + 1)) ∧ p = x_po X (x_fw X i)
                 · rw [show (decide (p + 1 < X (179 + m)) && decide (i + 1 < x_pl X ∧ x_fw X i = X (183 + 5 * m + p) ∧ x_fw X (i + 1) = X (183 + 5 * m + (p + 1)))) = true from by
                     rw [Bool.and_eq_true, decide_eq_true_iff, decide_eq_true_iff]
                     exact q.mpr ⟨c65, c90, e⟩, Bool.or_true, ← e.1, ← e.2, pk_us]
                 · rw [pk_un (by omega), hA m p hm hp, show (decide (p + 1 < X (179 + m)) && decide (i + 1 < x_pl X ∧ x_fw X i = X (183 + 5 * m + p) ∧ x_fw X (i + 1) = X (183 + 5 * m + (p + 1)))) = false from Bool.eq_false_iff.mpr (fun z => by
                     rw [Bool.and_eq_true, decide_eq_true_iff, decide_eq_true_iff] at z
                     exact e (q.mp z).2.2), Bool.or_false])
          · refine r_aload_n dX12_findSwaps_93 rfl rfl ?_
            refine s_getR dX12_findSwaps_94 fX12_64 lysX12 rfl ?_
            refine n_const 5 dX12_findSwaps_97 (by decide) ?_
            refine r_iload_n dX12_findSwaps_98 rfl rfl ?_
            refine n_mul dX12_findSwaps_99 ?_
            refine r_aload_n dX12_findSwaps_100 rfl rfl ?_
            refine r_aload_n dX12_findSwaps_101 rfl rfl ?_
            refine r_iload_n dX12_findSwaps_102 rfl rfl ?_
            refine n_const 1 dX12_findSwaps_103 (by decide) ?_
            refine n_sub dX12_findSwaps_104 (by omega) ?_
            rw [Nat.add_sub_cancel]
            refine s_V1I mX12_onPath dX12_findSwaps_105 okX12_onPath lX12_205 npX12_onPath lysX12 rfl (by decide) (by decide) (by decide) (Nat.le_of_ble_eq_true rfl) (Nat.le_of_ble_eq_true rfl) (c_onPath hg hpa hi1) (fun x s1 hq => ?_)
            obtain ⟨e9, rfl⟩ := hq
            replace e9 := e9.symm
            subst e9
            refine s_V1I mX12_positionOf dX12_findSwaps_108 okX12_positionOf lX12_147 npX12_positionOf lysX12 rfl (by decide) (by decide) (by decide) (Nat.le_of_ble_eq_true rfl) (Nat.le_of_ble_eq_true rfl) (c_mPositionOf hM hw ha (x_po_ok hw ha).1 (x_po_ok hw ha).2) (fun x s1 hq => ?_)
            obtain ⟨e9, rfl⟩ := hq
            replace e9 := e9.symm
            subst e9
            refine n_add dX12_findSwaps_111 ?_
            refine n_const 1 dX12_findSwaps_112 (by decide) ?_
            refine a_zst (b := true) dX12_findSwaps_113 rfl (by omega) (by decide) (fun s5 hs5 hf5 => ?_)
            refine n_inc dX12_findSwaps_114 rfl (n_i1 _) (by decide) rfl ?_
            refine r_goto (tgt := 27) dX12_findSwaps_117 (by decide) ?_
            first
              | (refine ih (i + 1) _ u1 (fun m p hm hp => ?_) hM hpa r1 r2 (by omega) (by omega)
                 rw [t_sb_s, hA m p hm hp]
                 have q := t_nb hg (m := m) (p := p) (n := i) hm c32
                 rw [show (decide (p + 1 < X (179 + m)) && decide (i + 1 < x_pl X ∧ x_fw X i = X (183 + 5 * m + p) ∧ x_fw X (i + 1) = X (183 + 5 * m + (p + 1)))) = false from Bool.eq_false_iff.mpr (fun z => by
                   rw [Bool.and_eq_true, decide_eq_true_iff, decide_eq_true_iff] at z
                   have q2 := q.mp z
                   omega), Bool.or_false])
              | (refine ih (i + 1) _ s5 (fun m p hm hp => ?_) (m_R_fr hM hf5 (Or.inl (by omega))) ⟨by rw [hf5 212 (by omega)]; exact hpa.1, fun j hj => by rw [hf5 221 (by omega)]; exact hpa.2 j hj⟩ (fun j hj => by rw [hf5 212 (by omega)]; exact r1 j hj) (fun k h1 h2 h3 h4 h5 => by rw [hf5 k (by omega)]; exact r2 k h1 h2 h3 h4 h5) (by omega) (by omega)
                 rw [t_sb_s, hs5]
                 have q := t_nb hg (m := m) (p := p) (n := i) hm c32
                 by_cases e : m = X (62 + x_fw X (i + 1)) ∧ p = x_po X (x_fw X i)
                 · rw [show (decide (p + 1 < X (179 + m)) && decide (i + 1 < x_pl X ∧ x_fw X i = X (183 + 5 * m + p) ∧ x_fw X (i + 1) = X (183 + 5 * m + (p + 1)))) = true from by
                     rw [Bool.and_eq_true, decide_eq_true_iff, decide_eq_true_iff]
                     exact q.mpr ⟨c65, c90, e⟩, Bool.or_true, ← e.1, ← e.2, pk_us]
                 · rw [pk_un (by omega), hA m p hm hp, show (decide (p + 1 < X (179 + m)) && decide (i + 1 < x_pl X ∧ x_fw X i = X (183 + 5 * m + p) ∧ x_fw X (i + 1) = X (183 + 5 * m + (p + 1)))) = false from Bool.eq_false_iff.mpr (fun z => by
                     rw [Bool.and_eq_true, decide_eq_true_iff, decide_eq_true_iff] at z
                     exact e (q.mp z).2.2), Bool.or_false])
  have al : ∀ f i u1, (∀ q, q < i → u1 229 q = bI false) → m_R X u1 → m_pa X u1 → (∀ j, j ≠ 17 → u1 212 j = s 212 j) → (∀ k, k ≠ 212 → k ≠ 218 → k ≠ 219 → k ≠ 221 → k ≠ 229 → u1 k = s k) → i ≤ 20 → 20 < i + f → s_W G mX12_findSwaps 9 0 0 (c_V (fun s1 => (∀ m p, m < 4 → p < 5 → s1 229 (5 * m + p) = bI (t_sw X m p)) ∧ m_R X s1 ∧ (∀ j, j ≠ 17 → s1 212 j = s 212 j) ∧ (∀ k, k ≠ 212 → k ≠ 218 → k ≠ 219 → k ≠ 221 → k ≠ 229 → s1 k = s k))) 6 [some (.ref 212), some (.int (nI i)), none] [] u1 := by
    intro f
    induction f with
    | zero =>
      intro i u1 hA hM hpa r1 r2 hi hme
      exact absurd hme (by omega)
    | succ f ih =>
      intro i u1 hA hM hpa r1 r2 hi hme
      refine r_iload_n dX12_findSwaps_6 rfl rfl ?_
      refine n_bip 20 dX12_findSwaps_7 (by decide) ?_
      refine n_cge (tgt := 25) dX12_findSwaps_9 (by decide) (by omega) (by omega) (fun c9 => ?_) (fun c9 => ?_)
      · refine n_const 1 dX12_findSwaps_25 (by decide) ?_
        refine r_istore_n dX12_findSwaps_26 rfl (by decide) rfl ?_
        have e9 : i = 20 := by omega
        subst e9
        refine bl 21 0 _ u1 (fun m p hm hp => ?_) hM hpa r1 r2 (by omega) (by omega)
        rw [hA (5 * m + p) (by omega), show t_sb X m p 0 = false from Bool.and_false _]
      · refine r_aload_n dX12_findSwaps_12 rfl rfl ?_
        refine s_getR dX12_findSwaps_13 fX12_64 lysX12 rfl ?_
        refine r_iload_n dX12_findSwaps_16 rfl rfl ?_
        refine n_const 0 dX12_findSwaps_17 (by decide) ?_
        refine a_zst (b := false) dX12_findSwaps_18 rfl (by omega) (by decide) (fun s5 hs5 hf5 => ?_)
        refine n_inc dX12_findSwaps_19 rfl (n_i1 _) (by decide) rfl ?_
        refine r_goto (tgt := 6) dX12_findSwaps_22 (by decide) ?_
        refine ih (i + 1) s5 (fun q hq => ?_) (m_R_fr hM hf5 (Or.inl (by omega))) ⟨by rw [hf5 212 (by omega)]; exact hpa.1, fun j hj => by rw [hf5 221 (by omega)]; exact hpa.2 j hj⟩ (fun j hj => by rw [hf5 212 (by omega)]; exact r1 j hj) (fun k h1 h2 h3 h4 h5 => by rw [hf5 k (by omega)]; exact r2 k h1 h2 h3 h4 h5) (by omega) (by omega)
        rw [hs5]
        by_cases e : q = i
        · subst e; rw [pk_us]
        · rw [pk_un e]; exact hA q (by omega)
  refine r_aload_n dX12_findSwaps_0 rfl rfl ?_
  refine s_V0V mX12_findPath dX12_findSwaps_1 okX12_findPath lX12_202 npX12_findPath lysX12 rfl (by decide) (by decide) (by decide) (Nat.le_of_ble_eq_true rfl) (Nat.le_of_ble_eq_true rfl) (c_findPath hM hop hH hg) (fun s1 hq => ?_)
  obtain ⟨hpa, -, hM1, r1, r2⟩ := hq
  refine n_const 0 dX12_findSwaps_4 (by decide) ?_
  refine r_istore_n dX12_findSwaps_5 rfl (by decide) rfl ?_
  exact al 21 0 s1 (fun q hq => absurd hq (by omega)) hM1 hpa r1 (fun k h1 h2 h3 h4 h5 => r2 k h1 h2 h3 h4) (by omega) (by omega)
end
