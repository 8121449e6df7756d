/-! ===== the reference's path and blocks ===== -/
def m_pa (X : x_T) (s : s_T) : Prop := s 212 17 = nI (x_pl X) ∧ ∀ i, i < x_pl X → s 221 i = nI (x_pb X i)
set_option maxRecDepth 20000 in
set_option maxHeartbeats 1000000 in
theorem c_findPath {G : q_G} {s : s_T} {X : x_T} (hM : m_R X s) (hop : m_op n0 s) (hH : ∃ hu, hu ≤ 50000 ∧ m_H none hu s) (hg : x_gd X) : s_W G mX12_findPath 8 0 0 (c_V (fun s1 => m_pa X s1 ∧ m_t0 X s1 ∧ m_R X s1 ∧ (∀ j, j ≠ 17 → s1 212 j = s 212 j) ∧ (∀ k, k ≠ 212 → k ≠ 218 → k ≠ 219 → k ≠ 221 → s1 k = s k))) 0 (q_ent mX12_findPath [.ref 212]) [] s := by
  show s_W G mX12_findPath 8 0 0 _ 0 [some (.ref 212), none, none, none, none] [] s
  have hs := x_sz hg.1
  have l2 : ∀ f i (L3 : Option Value) (L4 : Option Value) s1, m_R X s1 → m_t0 X s1 → m_op n0 s1 → s1 212 17 = nI i → (∀ j, j < i → x_bk X j ≠ none) → (∀ j, j < i → s1 221 j = nI (x_pb X j)) → (∀ j, j ≠ 17 → s1 212 j = s 212 j) → (∀ k, k ≠ 212 → k ≠ 218 → k ≠ 219 → k ≠ 221 → s1 k = s k) → i ≤ 20 → 20 < i + f → s_W G mX12_findPath 8 0 0 (c_V (fun s1 => m_pa X s1 ∧ m_t0 X s1 ∧ m_R X s1 ∧ (∀ j, j ≠ 17 → s1 212 j = s 212 j) ∧ (∀ k, k ≠ 212 → k ≠ 218 → k ≠ 219 → k ≠ 221 → s1 k = s k))) 54 [some (.ref 212), some (.int (nI 0)), some (.int (oI (x_bk X i))), L3, L4] [] s1 := by
    intro f
    induction f with
    | zero =>
      intro i L3 L4 s1 hM ht hop h17 hno hA hr1 hr2 hi hme
      have hz9 : i ≤ 20 := hi
      exact absurd hme (by omega)
    | succ f ih =>
      intro i L3 L4 s1 hM ht hop h17 hno hA hr1 hr2 hi hme
      cases hbq : x_bk X i with
      | none =>
        show s_W G mX12_findPath 8 0 0 _ 54 [some (.ref 212), some (.int (nI 0)), some (.int (-1)), L3, L4] [] s1
        refine r_iload_n dX12_findPath_54 rfl rfl ?_
        refine r_iconst (v := -1) dX12_findPath_55 (by decide) ?_
        refine r_icmp_eq (tgt := 155) dX12_findPath_56 (by decide) (fun c56 => ?_) (fun c56 => ?_)
        · refine s_vret dX12_findPath_155 rfl ?_
          have e9 := x_pl_eq (n := i) (by omega) hbq hno
          exact ⟨rfl, ⟨by rw [e9]; exact h17, fun j hj => hA j (by omega)⟩, ht, hM, hr1, hr2⟩
        · exact absurd rfl c56
      | some q =>
        have hqb := x_bk_lt hg hbq
        have hqbb := x_t0_bd hg hqb.1
        show s_W G mX12_findPath 8 0 0 _ 54 [some (.ref 212), some (.int (nI 0)), some (.int (nI q)), L3, L4] [] s1
        refine r_iload_n dX12_findPath_54 rfl rfl ?_
        refine r_iconst (v := -1) dX12_findPath_55 (by decide) ?_
        refine r_icmp_eq (tgt := 155) dX12_findPath_56 (by decide) (fun c56 => ?_) (fun c56 => ?_)
        · exact absurd c56 (nI_m1 (by omega))
        · refine r_aload_n dX12_findPath_59 rfl rfl ?_
          refine s_getR dX12_findPath_60 fX12_40 lysX12 rfl ?_
          refine r_aload_n dX12_findPath_63 rfl rfl ?_
          refine s_getI dX12_findPath_64 fX12_199 lysX12 rfl h17 ?_
          refine r_iload_n dX12_findPath_67 rfl rfl ?_
          refine a_st dX12_findPath_68 rfl (by omega) (by decide) (fun s2 hs2 hf2 => ?_)
          refine r_aload_n dX12_findPath_69 rfl rfl ?_
          refine r_dup dX12_findPath_70 rfl ?_
          refine s_getI dX12_findPath_71 fX12_199 lysX12 rfl (show s2 212 17 = nI i by rw [hf2 212 (by omega)]; exact h17) ?_
          refine n_const 1 dX12_findPath_74 (by decide) ?_
          refine n_add dX12_findPath_75 ?_
          refine a_put dX12_findPath_76 gX12_199 lysX12 rfl rfl rfl (fun s3 hs3 hf3 => ?_)
          replace hM := m_R_fr (m_R_fr hM hf2 (Or.inl (by omega))) hf3 (Or.inr (by omega))
          replace ht := m_t0_fr (m_t0_fr ht hf2 (Or.inl (by omega))) hf3 (Or.inr (by omega))
          replace hop := m_op_fr (m_op_fr hop hf2 (Or.inl (by omega))) hf3 (Or.inr (by omega))
          have hno2 : ∀ j, j < i + 1 → x_bk X j ≠ none := fun j hj => by
            by_cases e : j = i
            · subst e; rw [hbq]; exact fun z => by cases z
            · exact hno j (by omega)
          have hA2 : ∀ j, j < i + 1 → s3 221 j = nI (x_pb X j) := fun j hj => by
            rw [hf3 221 (by omega), hs2]
            by_cases e : j = i
            · subst e; rw [pk_us]; unfold x_pb; rw [hbq]; rfl
            · rw [pk_un e]; exact hA j (by omega)
          replace h17 : s3 212 17 = nI (i + 1) := by rw [hs3, pk_us]
          replace hr1 : ∀ j, j ≠ 17 → s3 212 j = s 212 j := fun j hj => by rw [hs3, pk_un hj, hf2 212 (by omega)]; exact hr1 j hj
          replace hr2 : ∀ k, k ≠ 212 → k ≠ 218 → k ≠ 219 → k ≠ 221 → s3 k = s k := fun k a b c d => by rw [hf3 k (by omega), hf2 k (by omega)]; exact hr2 k a b c d
          cases hjp : x_jp X q with
          | none =>
            cases hmp : x_mp X n0 q with
            | none =>
              refine r_aload_n dX12_findPath_79 rfl rfl ?_
              refine r_iload_n dX12_findPath_80 rfl rfl ?_
              refine s_V1I mX12_before dX12_findPath_81 okX12_before lX12_151 npX12_before lysX12 rfl (by decide) (by decide) (by decide) (Nat.le_of_ble_eq_true rfl) (Nat.le_of_ble_eq_true rfl) (c_before hM hg.1 hqb.1) (fun x s1 hq => ?_)
              obtain ⟨rfl, e9⟩ := hq
              have e9 : x = -1 := e9.trans (by have q9 : x_jp X q = _ := hjp; unfold x_jp at q9; rw [q9]; rfl)
              subst e9
              refine r_istore_n dX12_findPath_84 rfl (by decide) rfl ?_
              refine r_aload_n dX12_findPath_85 rfl rfl ?_
              refine r_iload_n dX12_findPath_86 rfl rfl ?_
              refine s_V1I mX12_ahead dX12_findPath_87 okX12_ahead lX12_157 npX12_ahead lysX12 rfl (by decide) (by decide) (by decide) (Nat.le_of_ble_eq_true rfl) (Nat.le_of_ble_eq_true rfl) (c_ahead hM hop hg.1 hqb.1 (x_po_ok hg.1 hqb.1).1 (x_po_ok hg.1 hqb.1).2) (fun x s1 hq => ?_)
              obtain ⟨rfl, e9⟩ := hq
              have e9 : x = -1 := e9.trans (by have q9 : x_mp X n0 q = _ := hmp; unfold x_mp at q9; rw [q9]; rfl)
              subst e9
              refine r_istore dX12_findPath_90 (by decide) rfl ?_
              refine r_iload_n dX12_findPath_92 rfl rfl ?_
              refine r_iconst (v := -1) dX12_findPath_93 (by decide) ?_
              refine r_icmp_eq (tgt := 116) dX12_findPath_94 (by decide) (fun c94 => ?_) (fun c94 => ?_)
              · refine r_iload dX12_findPath_116 rfl ?_
                refine r_iconst (v := -1) dX12_findPath_118 (by decide) ?_
                refine r_icmp_eq (tgt := 150) dX12_findPath_119 (by decide) (fun c119 => ?_) (fun c119 => ?_)
                · refine r_iconst (v := -1) dX12_findPath_150 (by decide) ?_
                  refine r_istore_n dX12_findPath_151 rfl (by decide) rfl ?_
                  refine r_goto (tgt := 54) dX12_findPath_152 (by decide) ?_
                  have hbk : x_bk X (i + 1) = x_nx0 X q := by show (x_bk X i).bind _ = _; rw [hbq]; rfl
                  have q9 := fun L3 L4 => ih (i + 1) L3 L4 _ hM ht hop h17 hno2 hA2 hr1 hr2 (by omega) (by omega)
                  rw [hbk] at q9
                  first
                    | (rw [show x_nx0 X q = none from x_nx_0 (fun q e => (by rw [hjp] at e; cases e)) (fun q e => (by rw [hmp] at e; cases e))] at q9; exact q9 _ _)
                · exact absurd rfl c119
              · exact absurd rfl c94
            | some qm =>
              have hqm := (x_mp_lt hg.1 hqb.1 hmp).1
              have hqmb := x_t0_bd hg hqm
              have hsu := x_su hg.1 (x_op hg.1 hqm).2.2.2.2.2.2.2.2.2 (x_op hg.1 hqb.1).2.2.2.2.2.2.2.2.2
              refine r_aload_n dX12_findPath_79 rfl rfl ?_
              refine r_iload_n dX12_findPath_80 rfl rfl ?_
              refine s_V1I mX12_before dX12_findPath_81 okX12_before lX12_151 npX12_before lysX12 rfl (by decide) (by decide) (by decide) (Nat.le_of_ble_eq_true rfl) (Nat.le_of_ble_eq_true rfl) (c_before hM hg.1 hqb.1) (fun x s1 hq => ?_)
              obtain ⟨rfl, e9⟩ := hq
              have e9 : x = -1 := e9.trans (by have q9 : x_jp X q = _ := hjp; unfold x_jp at q9; rw [q9]; rfl)
              subst e9
              refine r_istore_n dX12_findPath_84 rfl (by decide) rfl ?_
              refine r_aload_n dX12_findPath_85 rfl rfl ?_
              refine r_iload_n dX12_findPath_86 rfl rfl ?_
              refine s_V1I mX12_ahead dX12_findPath_87 okX12_ahead lX12_157 npX12_ahead lysX12 rfl (by decide) (by decide) (by decide) (Nat.le_of_ble_eq_true rfl) (Nat.le_of_ble_eq_true rfl) (c_ahead hM hop hg.1 hqb.1 (x_po_ok hg.1 hqb.1).1 (x_po_ok hg.1 hqb.1).2) (fun x s1 hq => ?_)
              obtain ⟨rfl, e9⟩ := hq
              have e9 : x = nI qm := e9.trans (by have q9 : x_mp X n0 q = _ := hmp; unfold x_mp at q9; rw [q9]; rfl)
              subst e9
              refine r_istore dX12_findPath_90 (by decide) rfl ?_
              refine r_iload_n dX12_findPath_92 rfl rfl ?_
              refine r_iconst (v := -1) dX12_findPath_93 (by decide) ?_
              refine r_icmp_eq (tgt := 116) dX12_findPath_94 (by decide) (fun c94 => ?_) (fun c94 => ?_)
              · refine r_iload dX12_findPath_116 rfl ?_
                refine r_iconst (v := -1) dX12_findPath_118 (by decide) ?_
                refine r_icmp_eq (tgt := 150) dX12_findPath_119 (by decide) (fun c119 => ?_) (fun c119 => ?_)
                · exact absurd c119 (nI_m1 (by omega))
                · refine r_aload_n dX12_findPath_122 rfl rfl ?_
                  refine r_iload dX12_findPath_123 rfl ?_
                  refine s_V1I mX12_endOf dX12_findPath_125 okX12_endOf lX12_164 npX12_endOf lysX12 rfl (by decide) (by decide) (by decide) (Nat.le_of_ble_eq_true rfl) (Nat.le_of_ble_eq_true rfl) (c_endOf hM (by omega) (ht _ (by omega)).1) (fun x s1 hq => ?_)
                  obtain ⟨rfl, rfl⟩ := hq
                  refine r_aload_n dX12_findPath_128 rfl rfl ?_
                  refine r_iload dX12_findPath_129 rfl ?_
                  refine r_iload_n dX12_findPath_131 rfl rfl ?_
                  refine s_V2I mX12_setup dX12_findPath_132 okX12_setup lX12_172 npX12_setup lysX12 rfl (by decide) (by decide) (by decide) (Nat.le_of_ble_eq_true rfl) (Nat.le_of_ble_eq_true rfl) (c_setup hM (by omega) (by omega) (x_op hg.1 hqm).2.2.2.2.2.2.2.2.2 (x_op hg.1 hqb.1).2.2.2.2.2.2.2.2.2) (fun x s1 hq => ?_)
                  obtain ⟨rfl, rfl⟩ := hq
                  refine n_add dX12_findPath_135 ?_
                  refine r_aload_n dX12_findPath_136 rfl rfl ?_
                  refine s_getR dX12_findPath_137 fX12_26 lysX12 rfl ?_
                  refine r_iload_n dX12_findPath_140 rfl rfl ?_
                  refine a_ld dX12_findPath_141 rfl (by omega) (by decide) (ht _ hqb.1).2 ?_
                  refine n_cne (tgt := 150) dX12_findPath_142 (by decide) (by omega) (by omega) (fun c142 => ?_) (fun c142 => ?_)
                  · refine r_iconst (v := -1) dX12_findPath_150 (by decide) ?_
                    refine r_istore_n dX12_findPath_151 rfl (by decide) rfl ?_
                    refine r_goto (tgt := 54) dX12_findPath_152 (by decide) ?_
                    have hbk : x_bk X (i + 1) = x_nx0 X q := by show (x_bk X i).bind _ = _; rw [hbq]; rfl
                    have q9 := fun L3 L4 => ih (i + 1) L3 L4 _ hM ht hop h17 hno2 hA2 hr1 hr2 (by omega) (by omega)
                    rw [hbk] at q9
                    first
                      | (rw [show x_nx0 X q = some qm from x_nx_m (fun q e => (by rw [hjp] at e; cases e)) hmp c142] at q9; exact q9 _ _)
                      | (rw [show x_nx0 X q = none from x_nx_0 (fun q e => (by rw [hjp] at e; cases e)) (fun q e => (by rw [hmp] at e; cases e; exact c142))] at q9; exact q9 _ _)
                  · refine r_iload dX12_findPath_145 rfl ?_
                    refine r_goto (tgt := 151) dX12_findPath_147 (by decide) ?_
                    refine r_istore_n dX12_findPath_151 rfl (by decide) rfl ?_
                    refine r_goto (tgt := 54) dX12_findPath_152 (by decide) ?_
                    have hbk : x_bk X (i + 1) = x_nx0 X q := by show (x_bk X i).bind _ = _; rw [hbq]; rfl
                    have q9 := fun L3 L4 => ih (i + 1) L3 L4 _ hM ht hop h17 hno2 hA2 hr1 hr2 (by omega) (by omega)
                    rw [hbk] at q9
                    first
                      | (rw [show x_nx0 X q = some qm from x_nx_m (fun q e => (by rw [hjp] at e; cases e)) hmp c142] at q9; exact q9 _ _)
                      | (rw [show x_nx0 X q = none from x_nx_0 (fun q e => (by rw [hjp] at e; cases e)) (fun q e => (by rw [hmp] at e; cases e; exact c142))] at q9; exact q9 _ _)
              · exact absurd rfl c94
          | some qj =>
            cases hmp : x_mp X n0 q with
            | none =>
              have hqj := (x_jp_lt hg.1 hqb.1 hjp).1
              have hqjb := x_t0_bd hg hqj
              refine r_aload_n dX12_findPath_79 rfl rfl ?_
              refine r_iload_n dX12_findPath_80 rfl rfl ?_
              refine s_V1I mX12_before dX12_findPath_81 okX12_before lX12_151 npX12_before lysX12 rfl (by decide) (by decide) (by decide) (Nat.le_of_ble_eq_true rfl) (Nat.le_of_ble_eq_true rfl) (c_before hM hg.1 hqb.1) (fun x s1 hq => ?_)
              obtain ⟨rfl, e9⟩ := hq
              have e9 : x = nI qj := e9.trans (by have q9 : x_jp X q = _ := hjp; unfold x_jp at q9; rw [q9]; rfl)
              subst e9
              refine r_istore_n dX12_findPath_84 rfl (by decide) rfl ?_
              refine r_aload_n dX12_findPath_85 rfl rfl ?_
              refine r_iload_n dX12_findPath_86 rfl rfl ?_
              refine s_V1I mX12_ahead dX12_findPath_87 okX12_ahead lX12_157 npX12_ahead lysX12 rfl (by decide) (by decide) (by decide) (Nat.le_of_ble_eq_true rfl) (Nat.le_of_ble_eq_true rfl) (c_ahead hM hop hg.1 hqb.1 (x_po_ok hg.1 hqb.1).1 (x_po_ok hg.1 hqb.1).2) (fun x s1 hq => ?_)
              obtain ⟨rfl, e9⟩ := hq
              have e9 : x = -1 := e9.trans (by have q9 : x_mp X n0 q = _ := hmp; unfold x_mp at q9; rw [q9]; rfl)
              subst e9
              refine r_istore dX12_findPath_90 (by decide) rfl ?_
              refine r_iload_n dX12_findPath_92 rfl rfl ?_
              refine r_iconst (v := -1) dX12_findPath_93 (by decide) ?_
              refine r_icmp_eq (tgt := 116) dX12_findPath_94 (by decide) (fun c94 => ?_) (fun c94 => ?_)
              · exact absurd c94 (nI_m1 (by omega))
              · refine r_aload_n dX12_findPath_97 rfl rfl ?_
                refine r_iload_n dX12_findPath_98 rfl rfl ?_
                refine s_V1I mX12_endOf dX12_findPath_99 okX12_endOf lX12_164 npX12_endOf lysX12 rfl (by decide) (by decide) (by decide) (Nat.le_of_ble_eq_true rfl) (Nat.le_of_ble_eq_true rfl) (c_endOf hM (by omega) (ht _ (by omega)).1) (fun x s1 hq => ?_)
                obtain ⟨rfl, rfl⟩ := hq
                refine r_aload_n dX12_findPath_102 rfl rfl ?_
                refine s_getR dX12_findPath_103 fX12_26 lysX12 rfl ?_
                refine r_iload_n dX12_findPath_106 rfl rfl ?_
                refine a_ld dX12_findPath_107 rfl (by omega) (by decide) (ht _ hqb.1).2 ?_
                refine n_cne (tgt := 116) dX12_findPath_108 (by decide) (by omega) (by omega) (fun c108 => ?_) (fun c108 => ?_)
                · refine r_iload dX12_findPath_116 rfl ?_
                  refine r_iconst (v := -1) dX12_findPath_118 (by decide) ?_
                  refine r_icmp_eq (tgt := 150) dX12_findPath_119 (by decide) (fun c119 => ?_) (fun c119 => ?_)
                  · refine r_iconst (v := -1) dX12_findPath_150 (by decide) ?_
                    refine r_istore_n dX12_findPath_151 rfl (by decide) rfl ?_
                    refine r_goto (tgt := 54) dX12_findPath_152 (by decide) ?_
                    have hbk : x_bk X (i + 1) = x_nx0 X q := by show (x_bk X i).bind _ = _; rw [hbq]; rfl
                    have q9 := fun L3 L4 => ih (i + 1) L3 L4 _ hM ht hop h17 hno2 hA2 hr1 hr2 (by omega) (by omega)
                    rw [hbk] at q9
                    first
                      | (rw [show x_nx0 X q = some qj from x_nx_j hjp c108] at q9; exact q9 _ _)
                      | (rw [show x_nx0 X q = none from x_nx_0 (fun q e => (by rw [hjp] at e; cases e; exact c108)) (fun q e => (by rw [hmp] at e; cases e))] at q9; exact q9 _ _)
                  · exact absurd rfl c119
                · refine r_iload_n dX12_findPath_111 rfl rfl ?_
                  refine r_istore_n dX12_findPath_112 rfl (by decide) rfl ?_
                  refine r_goto (tgt := 152) dX12_findPath_113 (by decide) ?_
                  refine r_goto (tgt := 54) dX12_findPath_152 (by decide) ?_
                  have hbk : x_bk X (i + 1) = x_nx0 X q := by show (x_bk X i).bind _ = _; rw [hbq]; rfl
                  have q9 := fun L3 L4 => ih (i + 1) L3 L4 _ hM ht hop h17 hno2 hA2 hr1 hr2 (by omega) (by omega)
                  rw [hbk] at q9
                  first
                    | (rw [show x_nx0 X q = some qj from x_nx_j hjp c108] at q9; exact q9 _ _)
                    | (rw [show x_nx0 X q = none from x_nx_0 (fun q e => (by rw [hjp] at e; cases e; exact c108)) (fun q e => (by rw [hmp] at e; cases e))] at q9; exact q9 _ _)
            | some qm =>
              have hqj := (x_jp_lt hg.1 hqb.1 hjp).1
              have hqjb := x_t0_bd hg hqj
              have hqm := (x_mp_lt hg.1 hqb.1 hmp).1
              have hqmb := x_t0_bd hg hqm
              have hsu := x_su hg.1 (x_op hg.1 hqm).2.2.2.2.2.2.2.2.2 (x_op hg.1 hqb.1).2.2.2.2.2.2.2.2.2
              refine r_aload_n dX12_findPath_79 rfl rfl ?_
              refine r_iload_n dX12_findPath_80 rfl rfl ?_
              refine s_V1I mX12_before dX12_findPath_81 okX12_before lX12_151 npX12_before lysX12 rfl (by decide) (by decide) (by decide) (Nat.le_of_ble_eq_true rfl) (Nat.le_of_ble_eq_true rfl) (c_before hM hg.1 hqb.1) (fun x s1 hq => ?_)
              obtain ⟨rfl, e9⟩ := hq
              have e9 : x = nI qj := e9.trans (by have q9 : x_jp X q = _ := hjp; unfold x_jp at q9; rw [q9]; rfl)
              subst e9
              refine r_istore_n dX12_findPath_84 rfl (by decide) rfl ?_
              refine r_aload_n dX12_findPath_85 rfl rfl ?_
              refine r_iload_n dX12_findPath_86 rfl rfl ?_
              refine s_V1I mX12_ahead dX12_findPath_87 okX12_ahead lX12_157 npX12_ahead lysX12 rfl (by decide) (by decide) (by decide) (Nat.le_of_ble_eq_true rfl) (Nat.le_of_ble_eq_true rfl) (c_ahead hM hop hg.1 hqb.1 (x_po_ok hg.1 hqb.1).1 (x_po_ok hg.1 hqb.1).2) (fun x s1 hq => ?_)
              obtain ⟨rfl, e9⟩ := hq
              have e9 : x = nI qm := e9.trans (by have q9 : x_mp X n0 q = _ := hmp; unfold x_mp at q9; rw [q9]; rfl)
              subst e9
              refine r_istore dX12_findPath_90 (by decide) rfl ?_
              refine r_iload_n dX12_findPath_92 rfl rfl ?_
              refine r_iconst (v := -1) dX12_findPath_93 (by decide) ?_
              refine r_icmp_eq (tgt := 116) dX12_findPath_94 (by decide) (fun c94 => ?_) (fun c94 => ?_)
              · exact absurd c94 (nI_m1 (by omega))
              · refine r_aload_n dX12_findPath_97 rfl rfl ?_
                refine r_iload_n dX12_findPath_98 rfl rfl ?_
                refine s_V1I mX12_endOf dX12_findPath_99 okX12_endOf lX12_164 npX12_endOf lysX12 rfl (by decide) (by decide) (by decide) (Nat.le_of_ble_eq_true rfl) (Nat.le_of_ble_eq_true rfl) (c_endOf hM (by omega) (ht _ (by omega)).1) (fun x s1 hq => ?_)
                obtain ⟨rfl, rfl⟩ := hq
                refine r_aload_n dX12_findPath_102 rfl rfl ?_
                refine s_getR dX12_findPath_103 fX12_26 lysX12 rfl ?_
                refine r_iload_n dX12_findPath_106 rfl rfl ?_
                refine a_ld dX12_findPath_107 rfl (by omega) (by decide) (ht _ hqb.1).2 ?_
                refine n_cne (tgt := 116) dX12_findPath_108 (by decide) (by omega) (by omega) (fun c108 => ?_) (fun c108 => ?_)
                · refine r_iload dX12_findPath_116 rfl ?_
                  refine r_iconst (v := -1) dX12_findPath_118 (by decide) ?_
                  refine r_icmp_eq (tgt := 150) dX12_findPath_119 (by decide) (fun c119 => ?_) (fun c119 => ?_)
                  · exact absurd c119 (nI_m1 (by omega))
                  · refine r_aload_n dX12_findPath_122 rfl rfl ?_
                    refine r_iload dX12_findPath_123 rfl ?_
                    refine s_V1I mX12_endOf dX12_findPath_125 okX12_endOf lX12_164 npX12_endOf lysX12 rfl (by decide) (by decide) (by decide) (Nat.le_of_ble_eq_true rfl) (Nat.le_of_ble_eq_true rfl) (c_endOf hM (by omega) (ht _ (by omega)).1) (fun x s1 hq => ?_)
                    obtain ⟨rfl, rfl⟩ := hq
                    refine r_aload_n dX12_findPath_128 rfl rfl ?_
                    refine r_iload dX12_findPath_129 rfl ?_
                    refine r_iload_n dX12_findPath_131 rfl rfl ?_
                    refine s_V2I mX12_setup dX12_findPath_132 okX12_setup lX12_172 npX12_setup lysX12 rfl (by decide) (by decide) (by decide) (Nat.le_of_ble_eq_true rfl) (Nat.le_of_ble_eq_true rfl) (c_setup hM (by omega) (by omega) (x_op hg.1 hqm).2.2.2.2.2.2.2.2.2 (x_op hg.1 hqb.1).2.2.2.2.2.2.2.2.2) (fun x s1 hq => ?_)
                    obtain ⟨rfl, rfl⟩ := hq
                    refine n_add dX12_findPath_135 ?_
                    refine r_aload_n dX12_findPath_136 rfl rfl ?_
                    refine s_getR dX12_findPath_137 fX12_26 lysX12 rfl ?_
                    refine r_iload_n dX12_findPath_140 rfl rfl ?_
                    refine a_ld dX12_findPath_141 rfl (by omega) (by decide) (ht _ hqb.1).2 ?_
                    refine n_cne (tgt := 150) dX12_findPath_142 (by decide) (by omega) (by omega) (fun c142 => ?_) (fun c142 => ?_)
                    · refine r_iconst (v := -1) dX12_findPath_150 (by decide) ?_
                      refine r_istore_n dX12_findPath_151 rfl (by decide) rfl ?_
                      refine r_goto (tgt := 54) dX12_findPath_152 (by decide) ?_
                      have hbk : x_bk X (i + 1) = x_nx0 X q := by show (x_bk X i).bind _ = _; rw [hbq]; rfl
                      have q9 := fun L3 L4 => ih (i + 1) L3 L4 _ hM ht hop h17 hno2 hA2 hr1 hr2 (by omega) (by omega)
                      rw [hbk] at q9
                      first
                        | (rw [show x_nx0 X q = some qj from x_nx_j hjp c108] at q9; exact q9 _ _)
                        | (rw [show x_nx0 X q = some qm from x_nx_m (fun q e => (by rw [hjp] at e; cases e; exact c108)) hmp c142] at q9; exact q9 _ _)
                        | (rw [show x_nx0 X q = none from x_nx_0 (fun q e => (by rw [hjp] at e; cases e; exact c108)) (fun q e => (by rw [hmp] at e; cases e; exact c142))] at q9; exact q9 _ _)
                    · refine r_iload dX12_findPath_145 rfl ?_
                      refine r_goto (tgt := 151) dX12_findPath_147 (by decide) ?_
                      refine r_istore_n dX12_findPath_151 rfl (by decide) rfl ?_
                      refine r_goto (tgt := 54) dX12_findPath_152 (by decide) ?_
                      have hbk : x_bk X (i + 1) = x_nx0 X q := by show (x_bk X i).bind _ = _; rw [hbq]; rfl
                      have q9 := fun L3 L4 => ih (i + 1) L3 L4 _ hM ht hop h17 hno2 hA2 hr1 hr2 (by omega) (by omega)
                      rw [hbk] at q9
                      first
                        | (rw [show x_nx0 X q = some qj from x_nx_j hjp c108] at q9; exact q9 _ _)
                        | (rw [show x_nx0 X q = some qm from x_nx_m (fun q e => (by rw [hjp] at e; cases e; exact c108)) hmp c142] at q9; exact q9 _ _)
                        | (rw [show x_nx0 X q = none from x_nx_0 (fun q e => (by rw [hjp] at e; cases e; exact c108)) (fun q e => (by rw [hmp] at e; cases e; exact c142))] at q9; exact q9 _ _)
                · refine r_iload_n dX12_findPath_111 rfl rfl ?_
                  refine r_istore_n dX12_findPath_112 rfl (by decide) rfl ?_
                  refine r_goto (tgt := 152) dX12_findPath_113 (by decide) ?_
                  refine r_goto (tgt := 54) dX12_findPath_152 (by decide) ?_
                  have hbk : x_bk X (i + 1) = x_nx0 X q := by show (x_bk X i).bind _ = _; rw [hbq]; rfl
                  have q9 := fun L3 L4 => ih (i + 1) L3 L4 _ hM ht hop h17 hno2 hA2 hr1 hr2 (by omega) (by omega)
                  rw [hbk] at q9
                  first
                    | (rw [show x_nx0 X q = some qj from x_nx_j hjp c108] at q9; exact q9 _ _)
                    | (rw [show x_nx0 X q = some qm from x_nx_m (fun q e => (by rw [hjp] at e; cases e; exact c108)) hmp c142] at q9; exact q9 _ _)
                    | (rw [show x_nx0 X q = none from x_nx_0 (fun q e => (by rw [hjp] at e; cases e; exact c108)) (fun q e => (by rw [hmp] at e; cases e; exact c142))] at q9; exact q9 _ _)
  refine r_aload_n dX12_findPath_0 rfl rfl ?_
  refine s_V0I mX12_findTimes dX12_findPath_1 okX12_findTimes lX12_181 npX12_findTimes lysX12 rfl (by decide) (by decide) (by decide) (Nat.le_of_ble_eq_true rfl) (Nat.le_of_ble_eq_true rfl) (c_findTimes0 hM hop hH hg) (fun x s1 hq => ?_)
  obtain ⟨rfl, ht, hf1⟩ := hq
  refine r_istore_n dX12_findPath_4 rfl (by decide) rfl ?_
  refine r_aload_n dX12_findPath_5 rfl rfl ?_
  refine n_const 0 dX12_findPath_6 (by decide) ?_
  refine a_put dX12_findPath_7 gX12_199 lysX12 rfl rfl rfl (fun s2 hs2 hf2 => ?_)
  refine r_iconst (v := -1) dX12_findPath_10 (by decide) ?_
  refine r_istore_n dX12_findPath_11 rfl (by decide) rfl ?_
  refine n_const 0 dX12_findPath_12 (by decide) ?_
  refine r_istore_n dX12_findPath_13 rfl (by decide) rfl ?_
  replace hM := m_R_fr (m_R_fr hM hf1 (Or.inl (by omega))) hf2 (Or.inr (by omega))
  replace ht := m_t0_fr ht hf2 (Or.inr (by omega))
  replace hop := m_op_fr (m_op_fr hop hf1 (Or.inr (by omega))) hf2 (Or.inr (by omega))
  have h17 : s2 212 17 = nI 0 := by rw [hs2, pk_us]
  have hr1 : ∀ j, j ≠ 17 → s2 212 j = s 212 j := fun j hj => by rw [hs2, pk_un hj, hf1 212 (by omega)]
  have hr2 : ∀ k, k ≠ 212 → k ≠ 218 → k ≠ 219 → k ≠ 221 → s2 k = s k := fun k a b c d => by rw [hf2 k (by omega), hf1 k (by omega)]
  have l1 : ∀ f k (L4 : Option Value), k ≤ X 1 → X 1 < k + f → s_W G mX12_findPath 8 0 0 (c_V (fun s1 => m_pa X s1 ∧ m_t0 X s1 ∧ m_R X s1 ∧ (∀ j, j ≠ 17 → s1 212 j = s 212 j) ∧ (∀ k, k ≠ 212 → k ≠ 218 → k ≠ 219 → k ≠ 221 → s1 k = s k))) 14 [some (.ref 212), some (.int (nI 0)), some (.int (oI (x_la (x_e0 X) k))), some (.int (nI k)), L4] [] s2 := by
    intro f
    induction f with
    | zero =>
      intro k L4 hk hme
      exact absurd hme (by omega)
    | succ f ih =>
      intro k L4 hk hme
      cases hla : x_la (x_e0 X) k with
      | none =>
        show s_W G mX12_findPath 8 0 0 _ 14 [some (.ref 212), some (.int (nI 0)), some (.int (-1)), some (.int (nI k)), L4] [] s2
        refine r_iload_n dX12_findPath_14 rfl rfl ?_
        refine r_aload_n dX12_findPath_15 rfl rfl ?_
        refine s_getR dX12_findPath_16 fX12_9 lysX12 rfl ?_
        refine n_const 1 dX12_findPath_19 (by decide) ?_
        refine m_ld dX12_findPath_20 hM (by omega) ?_
        refine n_cge (tgt := 54) dX12_findPath_21 (by decide) (by omega) (by omega) (fun c21 => ?_) (fun c21 => ?_)
        · have e9 : k = X 1 := by omega
          subst e9
          have q9 := l2 21 0 (some (.int (nI (X 1)))) L4 s2 hM ht hop h17 (fun j hj => absurd hj (by omega)) (fun j hj => absurd hj (by omega)) hr1 hr2 (by omega) (by omega)
          rw [show x_bk X 0 = _ from hla] at q9
          exact q9
        · have hkb := x_t0_bd hg c21
          refine r_iload_n dX12_findPath_24 rfl rfl ?_
          refine r_iconst (v := -1) dX12_findPath_25 (by decide) ?_
          refine r_icmp_eq (tgt := 42) dX12_findPath_26 (by decide) (fun c26 => ?_) (fun c26 => ?_)
          · refine r_iload_n dX12_findPath_42 rfl rfl ?_
            refine r_goto (tgt := 47) dX12_findPath_43 (by decide) ?_
            refine r_istore_n dX12_findPath_47 rfl (by decide) rfl ?_
            refine n_inc dX12_findPath_48 rfl (n_i1 _) (by decide) rfl ?_
            refine r_goto (tgt := 14) dX12_findPath_51 (by decide) ?_
            have e9 : x_la (x_e0 X) (k + 1) = some k := by unfold x_la; rw [hla]
            have q9 := ih (k + 1) L4 (by omega) (by omega)
            rw [e9] at q9
            exact q9
          · exact absurd rfl c26
      | some q =>
        have hq := x_la_lt _ _ hla
        show s_W G mX12_findPath 8 0 0 _ 14 [some (.ref 212), some (.int (nI 0)), some (.int (nI q)), some (.int (nI k)), L4] [] s2
        refine r_iload_n dX12_findPath_14 rfl rfl ?_
        refine r_aload_n dX12_findPath_15 rfl rfl ?_
        refine s_getR dX12_findPath_16 fX12_9 lysX12 rfl ?_
        refine n_const 1 dX12_findPath_19 (by decide) ?_
        refine m_ld dX12_findPath_20 hM (by omega) ?_
        refine n_cge (tgt := 54) dX12_findPath_21 (by decide) (by omega) (by omega) (fun c21 => ?_) (fun c21 => ?_)
        · have e9 : k = X 1 := by omega
          subst e9
          have q9 := l2 21 0 (some (.int (nI (X 1)))) L4 s2 hM ht hop h17 (fun j hj => absurd hj (by omega)) (fun j hj => absurd hj (by omega)) hr1 hr2 (by omega) (by omega)
          rw [show x_bk X 0 = _ from hla] at q9
          exact q9
        · have hkb := x_t0_bd hg c21
          have hqb := x_t0_bd hg (o := q) (by omega)
          refine r_iload_n dX12_findPath_24 rfl rfl ?_
          refine r_iconst (v := -1) dX12_findPath_25 (by decide) ?_
          refine r_icmp_eq (tgt := 42) dX12_findPath_26 (by decide) (fun c26 => ?_) (fun c26 => ?_)
          · exact absurd c26 (nI_m1 (by omega))
          · refine r_aload_n dX12_findPath_29 rfl rfl ?_
            refine r_iload_n dX12_findPath_30 rfl rfl ?_
            refine s_V1I mX12_endOf dX12_findPath_31 okX12_endOf lX12_164 npX12_endOf lysX12 rfl (by decide) (by decide) (by decide) (Nat.le_of_ble_eq_true rfl) (Nat.le_of_ble_eq_true rfl) (c_endOf hM (by omega) (ht _ (by omega)).1) (fun x s1 hq => ?_)
            obtain ⟨rfl, rfl⟩ := hq
            refine r_aload_n dX12_findPath_34 rfl rfl ?_
            refine r_iload_n dX12_findPath_35 rfl rfl ?_
            refine s_V1I mX12_endOf dX12_findPath_36 okX12_endOf lX12_164 npX12_endOf lysX12 rfl (by decide) (by decide) (by decide) (Nat.le_of_ble_eq_true rfl) (Nat.le_of_ble_eq_true rfl) (c_endOf hM (by omega) (ht _ (by omega)).1) (fun x s1 hq => ?_)
            obtain ⟨rfl, rfl⟩ := hq
            refine n_cle (tgt := 46) dX12_findPath_39 (by decide) (by omega) (by omega) (fun c39 => ?_) (fun c39 => ?_)
            · refine r_iload_n dX12_findPath_46 rfl rfl ?_
              refine r_istore_n dX12_findPath_47 rfl (by decide) rfl ?_
              refine n_inc dX12_findPath_48 rfl (n_i1 _) (by decide) rfl ?_
              refine r_goto (tgt := 14) dX12_findPath_51 (by decide) ?_
              have q9 := ih (k + 1) L4 (by omega) (by omega)
              first
                | (rw [show x_la (x_e0 X) (k + 1) = some k by unfold x_la; rw [hla]; exact if_pos (show x_t0 X q + X (82 + q) < x_t0 X k + X (82 + k) by omega)] at q9; exact q9)
                | (rw [show x_la (x_e0 X) (k + 1) = some q by unfold x_la; rw [hla]; exact if_neg (show ¬ x_t0 X q + X (82 + q) < x_t0 X k + X (82 + k) by omega)] at q9; exact q9)
            · refine r_iload_n dX12_findPath_42 rfl rfl ?_
              refine r_goto (tgt := 47) dX12_findPath_43 (by decide) ?_
              refine r_istore_n dX12_findPath_47 rfl (by decide) rfl ?_
              refine n_inc dX12_findPath_48 rfl (n_i1 _) (by decide) rfl ?_
              refine r_goto (tgt := 14) dX12_findPath_51 (by decide) ?_
              have q9 := ih (k + 1) L4 (by omega) (by omega)
              first
                | (rw [show x_la (x_e0 X) (k + 1) = some k by unfold x_la; rw [hla]; exact if_pos (show x_t0 X q + X (82 + q) < x_t0 X k + X (82 + k) by omega)] at q9; exact q9)
                | (rw [show x_la (x_e0 X) (k + 1) = some q by unfold x_la; rw [hla]; exact if_neg (show ¬ x_t0 X q + X (82 + q) < x_t0 X k + X (82 + k) by omega)] at q9; exact q9)
  exact l1 (X 1 + 1) 0 _ (by omega) (by omega)
set_option maxRecDepth 20000 in
set_option maxHeartbeats 1000000 in
theorem c_onPath {G : q_G} {s : s_T} {X : x_T} {i : Nat} (hg : x_gd X) (hp : m_pa X s) (hi : i < x_pl X) : s_W G mX12_onPath 1 0 0 (c_I (fun y9 s1 => s1 = s ∧ y9 = nI (x_fw X i))) 0 (q_ent mX12_onPath [.ref 212, .int (nI i)]) [] s := by
  show s_W G mX12_onPath 1 0 0 _ 0 [some (.ref 212), some (.int (nI i))] [] s
  have hs := x_sz hg.1
  have hpl := (x_pl_ok hg).1
  refine r_aload_n dX12_onPath_0 rfl rfl ?_
  refine s_getR dX12_onPath_1 fX12_40 lysX12 rfl ?_
  refine r_aload_n dX12_onPath_4 rfl rfl ?_
  refine s_getI dX12_onPath_5 fX12_199 lysX12 rfl hp.1 ?_
  refine n_const 1 dX12_onPath_8 (by decide) ?_
  refine n_sub dX12_onPath_9 (by omega) ?_
  refine r_iload_n dX12_onPath_10 rfl rfl ?_
  refine n_sub dX12_onPath_11 (by omega) ?_
  refine a_ld dX12_onPath_12 rfl (by omega) (by decide) (hp.2 _ (by omega)) ?_
  refine s_iret dX12_onPath_13 rfl rfl ?_
  exact ⟨_, rfl, rfl, rfl⟩
set_option maxRecDepth 20000 in
set_option maxHeartbeats 1000000 in
theorem c_beginsBlock {G : q_G} {s : s_T} {X : x_T} {i : Nat} (hM : m_R X s) (hg : x_gd X) (hp : m_pa X s) (hi : i < x_pl X) : s_W G mX12_beginsBlock 2 0 0 (c_I (fun y9 s1 => s1 = s ∧ y9 = bI (x_b1 (x_fm X) i))) 0 (q_ent mX12_beginsBlock [.ref 212, .int (nI i)]) [] s := by
  show s_W G mX12_beginsBlock 2 0 0 _ 0 [some (.ref 212), some (.int (nI i))] [] s
  have hs := x_sz hg.1
  have hpl := (x_pl_ok hg).1
  have hop := x_op hg.1 (x_fw_lt hg hi)
  refine r_iload_n dX12_beginsBlock_0 rfl rfl ?_
  refine n_ifeq (tgt := 35) dX12_beginsBlock_1 (by decide) (by omega) (fun c1 => ?_) (fun c1 => ?_)
  · refine n_const 1 dX12_beginsBlock_35 (by decide) ?_
    refine r_goto (tgt := 40) dX12_beginsBlock_36 (by decide) ?_
    refine s_iret dX12_beginsBlock_40 rfl rfl ?_
    refine ⟨_, rfl, rfl, ?_⟩
    first
      | (rw [show x_b1 (x_fm X) i = true from decide_eq_true (Or.inl c1)]; rfl)
      | (rw [show x_b1 (x_fm X) i = true from decide_eq_true (Or.inr c32)]; rfl)
      | (rw [show x_b1 (x_fm X) i = false from decide_eq_false (fun z => z.elim (fun z => by omega) (fun z => z c32))]; rfl)
  · have hfl2 := x_fw_lt hg (i := i - 1) (by omega)
    have hop2 := x_op hg.1 hfl2
    have hfl1 := x_fw_lt hg hi
    refine r_aload_n dX12_beginsBlock_4 rfl rfl ?_
    refine s_getR dX12_beginsBlock_5 fX12_9 lysX12 rfl ?_
    refine n_bip 62 dX12_beginsBlock_8 (by decide) ?_
    refine r_aload_n dX12_beginsBlock_10 rfl rfl ?_
    refine r_iload_n dX12_beginsBlock_11 rfl rfl ?_
    refine s_V1I mX12_onPath dX12_beginsBlock_12 okX12_onPath lX12_205 npX12_onPath lysX12 rfl (by decide) (by decide) (by decide) (Nat.le_of_ble_eq_true rfl) (Nat.le_of_ble_eq_true rfl) (c_onPath hg hp (by omega)) (fun x s1 hq => ?_)
    obtain ⟨rfl, rfl⟩ := hq
    refine n_add dX12_beginsBlock_15 ?_
    refine m_ld dX12_beginsBlock_16 hM (by omega) ?_
    refine r_aload_n dX12_beginsBlock_17 rfl rfl ?_
    refine s_getR dX12_beginsBlock_18 fX12_9 lysX12 rfl ?_
    refine n_bip 62 dX12_beginsBlock_21 (by decide) ?_
    refine r_aload_n dX12_beginsBlock_23 rfl rfl ?_
    refine r_iload_n dX12_beginsBlock_24 rfl rfl ?_
    refine n_const 1 dX12_beginsBlock_25 (by decide) ?_
    refine n_sub dX12_beginsBlock_26 (by omega) ?_
    refine s_V1I mX12_onPath dX12_beginsBlock_27 okX12_onPath lX12_205 npX12_onPath lysX12 rfl (by decide) (by decide) (by decide) (Nat.le_of_ble_eq_true rfl) (Nat.le_of_ble_eq_true rfl) (c_onPath hg hp (by omega)) (fun x s1 hq => ?_)
    obtain ⟨rfl, rfl⟩ := hq
    refine n_add dX12_beginsBlock_30 ?_
    refine m_ld dX12_beginsBlock_31 hM (by omega) ?_
    refine n_ceq (tgt := 39) dX12_beginsBlock_32 (by decide) (by omega) (by omega) (fun c32 => ?_) (fun c32 => ?_)
    · refine n_const 0 dX12_beginsBlock_39 (by decide) ?_
      refine s_iret dX12_beginsBlock_40 rfl rfl ?_
      refine ⟨_, rfl, rfl, ?_⟩
      first
        | (rw [show x_b1 (x_fm X) i = true from decide_eq_true (Or.inl c1)]; rfl)
        | (rw [show x_b1 (x_fm X) i = true from decide_eq_true (Or.inr c32)]; rfl)
        | (rw [show x_b1 (x_fm X) i = false from decide_eq_false (fun z => z.elim (fun z => by omega) (fun z => z c32))]; rfl)
    · refine n_const 1 dX12_beginsBlock_35 (by decide) ?_
      refine r_goto (tgt := 40) dX12_beginsBlock_36 (by decide) ?_
      refine s_iret dX12_beginsBlock_40 rfl rfl ?_
      refine ⟨_, rfl, rfl, ?_⟩
      first
        | (rw [show x_b1 (x_fm X) i = true from decide_eq_true (Or.inl c1)]; rfl)
        | (rw [show x_b1 (x_fm X) i = true from decide_eq_true (Or.inr c32)]; rfl)
        | (rw [show x_b1 (x_fm X) i = false from decide_eq_false (fun z => z.elim (fun z => by omega) (fun z => z c32))]; rfl)
set_option maxRecDepth 20000 in
set_option maxHeartbeats 1000000 in
theorem c_blockMany {G : q_G} {s : s_T} {X : x_T} (hM : m_R X s) (hg : x_gd X) (hp : m_pa X s) : s_W G mX12_blockMany 3 0 0 (c_I (fun y9 s1 => s1 = s ∧ y9 = nI (x_bc (x_fm X) (x_pl X)))) 0 (q_ent mX12_blockMany [.ref 212]) [] s := by
  show s_W G mX12_blockMany 3 0 0 _ 0 [some (.ref 212), none, none] [] s
  have hs := x_sz hg.1
  have hpl := (x_pl_ok hg).1
  have lp : ∀ f i, i ≤ x_pl X → x_pl X < i + f → s_W G mX12_blockMany 3 0 0 (c_I (fun y9 s1 => s1 = s ∧ y9 = nI (x_bc (x_fm X) (x_pl X)))) 4 [some (.ref 212), some (.int (nI (x_bc (x_fm X) i))), some (.int (nI i))] [] s := by
    intro f
    induction f with
    | zero =>
      intro i hi hme
      exact absurd hme (by omega)
    | succ f ih =>
      intro i hi hme
      refine r_iload_n dX12_blockMany_4 rfl rfl ?_
      refine r_aload_n dX12_blockMany_5 rfl rfl ?_
      refine s_getI dX12_blockMany_6 fX12_199 lysX12 rfl hp.1 ?_
      refine n_cge (tgt := 34) dX12_blockMany_9 (by decide) (by omega) (by omega) (fun c9 => ?_) (fun c9 => ?_)
      · refine r_iload_n dX12_blockMany_34 rfl rfl ?_
        refine s_iret dX12_blockMany_35 rfl rfl ?_
        have e9 : i = x_pl X := by omega
        subst e9
        exact ⟨_, rfl, rfl, rfl⟩
      · refine r_iload_n dX12_blockMany_12 rfl rfl ?_
        refine r_aload_n dX12_blockMany_13 rfl rfl ?_
        refine r_iload_n dX12_blockMany_14 rfl rfl ?_
        refine s_V1I mX12_beginsBlock dX12_blockMany_15 okX12_beginsBlock lX12_208 npX12_beginsBlock lysX12 rfl (by decide) (by decide) (by decide) (Nat.le_of_ble_eq_true rfl) (Nat.le_of_ble_eq_true rfl) (c_beginsBlock hM hg hp (by omega)) (fun x s1 hq => ?_)
        obtain ⟨rfl, rfl⟩ := hq
        refine b_ifeq (tgt := 25) dX12_blockMany_18 (by decide) (fun c18 => ?_) (fun c18 => ?_)
        · refine n_const 0 dX12_blockMany_25 (by decide) ?_
          refine n_add dX12_blockMany_26 ?_
          refine r_istore_n dX12_blockMany_27 rfl (by decide) rfl ?_
          refine n_inc dX12_blockMany_28 rfl (n_i1 _) (by decide) rfl ?_
          refine r_goto (tgt := 4) dX12_blockMany_31 (by decide) ?_
          first
            | (rw [show x_bc (x_fm X) i + 1 = x_bc (x_fm X) (i + 1) by rw [x_bc_s, if_pos c18]]; exact ih (i + 1) (by omega) (by omega))
            | (rw [show x_bc (x_fm X) i + 0 = x_bc (x_fm X) (i + 1) by rw [x_bc_s, if_neg (by rw [c18]; decide)]]; exact ih (i + 1) (by omega) (by omega))
        · refine n_const 1 dX12_blockMany_21 (by decide) ?_
          refine r_goto (tgt := 26) dX12_blockMany_22 (by decide) ?_
          refine n_add dX12_blockMany_26 ?_
          refine r_istore_n dX12_blockMany_27 rfl (by decide) rfl ?_
          refine n_inc dX12_blockMany_28 rfl (n_i1 _) (by decide) rfl ?_
          refine r_goto (tgt := 4) dX12_blockMany_31 (by decide) ?_
          first
            | (rw [show x_bc (x_fm X) i + 1 = x_bc (x_fm X) (i + 1) by rw [x_bc_s, if_pos c18]]; exact ih (i + 1) (by omega) (by omega))
            | (rw [show x_bc (x_fm X) i + 0 = x_bc (x_fm X) (i + 1) by rw [x_bc_s, if_neg (by rw [c18]; decide)]]; exact ih (i + 1) (by omega) (by omega))
  refine n_const 0 dX12_blockMany_0 (by decide) ?_
  refine r_istore_n dX12_blockMany_1 rfl (by decide) rfl ?_
  refine n_const 0 dX12_blockMany_2 (by decide) ?_
  refine r_istore_n dX12_blockMany_3 rfl (by decide) rfl ?_
  exact lp (x_pl X + 1) 0 (by omega) (by omega)
set_option maxRecDepth 20000 in
set_option maxHeartbeats 1000000 in
theorem m_pathLength {G : q_G} {s : s_T} {z : z_T} (hz : z_wf z) (hM : m_R (z 0) s) (hO : m_O z s) : s_W G mX12_pathLength 9 0 0 (m_P (A_pathLength z) s) 0 (q_ent mX12_pathLength [.ref 212]) [] s := by
  show s_W G mX12_pathLength 9 0 0 _ 0 [some (.ref 212)] [] s
  have hw := hz.1.1
  have hs := x_sz hw
  have hf : s_fr 212 234 s s := s_fr_rf
  have hg := z_gd hz
  have hplb := (x_pl_ok hg).1
  have hbcb := x_bc_le (q := x_fm (z 0)) (x_pl (z 0))
  refine r_aload_n dX12_pathLength_0 rfl rfl ?_
  refine n_const 0 dX12_pathLength_1 (by decide) ?_
  refine a_put dX12_pathLength_2 gX12_79 lysX12 rfl rfl rfl (fun s1 hs1 hf1 => ?_)
  have h3 := (congrFun hs1 3).trans pk_us
  have hM := m_R_fr hM hf1 (Or.inr (by omega))
  have hO := m_O_eq hO (m_eq_put hs1 hf1 (by decide))
  have hf := s_fr_tr hf (s_fr_w (lo' := 212) (hi' := 234) hf1 (by omega) (by omega))
  try replace hp : m_pa (z 0) s1 := ⟨by rw [hs1, pk_un (by decide)]; exact hp.1, fun i hi => by rw [hf1 221 (by omega)]; exact hp.2 i hi⟩
  refine r_aload_n dX12_pathLength_5 rfl rfl ?_
  refine s_V0V mX12_findPath dX12_pathLength_6 okX12_findPath lX12_202 npX12_findPath lysX12 rfl (by decide) (by decide) (by decide) (Nat.le_of_ble_eq_true rfl) (Nat.le_of_ble_eq_true rfl) (c_findPath hM hO.2.2.2.2.2.2.2.2.2.1 hO.2.2.2.2.2.2.2.2.2.2.1 (z_gd hz)) (fun s1 hq => ?_)
  obtain ⟨hp, ht, hM2, hr1, hr2⟩ := hq
  replace hM := hM2
  replace hO := m_O_eq hO ⟨fun k hk => hr2 k (by omega) (by omega) (by omega) (by omega), fun j hj => hr1 j (by omega)⟩
  replace hf := s_fr_tr hf (lo := 212) (hi := 234) (fun k hk => hr2 k (by omega) (by omega) (by omega) (by omega))
  try replace h3 := (hr1 3 (by decide)).trans h3
  refine r_aload_n dX12_pathLength_9 rfl rfl ?_
  refine s_getI dX12_pathLength_10 fX12_199 lysX12 rfl hp.1 ?_
  refine s_iret dX12_pathLength_13 rfl rfl ?_
  exact m_P_s rfl h3 hM hO hf
set_option maxRecDepth 20000 in
set_option maxHeartbeats 1000000 in
theorem m_blocks {G : q_G} {s : s_T} {z : z_T} (hz : z_wf z) (hM : m_R (z 0) s) (hO : m_O z s) : s_W G mX12_blocks 9 0 0 (m_P (A_blocks z) s) 0 (q_ent mX12_blocks [.ref 212]) [] s := by
  show s_W G mX12_blocks 9 0 0 _ 0 [some (.ref 212)] [] s
  have hw := hz.1.1
  have hs := x_sz hw
  have hf : s_fr 212 234 s s := s_fr_rf
  have hg := z_gd hz
  have hplb := (x_pl_ok hg).1
  have hbcb := x_bc_le (q := x_fm (z 0)) (x_pl (z 0))
  refine r_aload_n dX12_blocks_0 rfl rfl ?_
  refine n_const 0 dX12_blocks_1 (by decide) ?_
  refine a_put dX12_blocks_2 gX12_79 lysX12 rfl rfl rfl (fun s1 hs1 hf1 => ?_)
  have h3 := (congrFun hs1 3).trans pk_us
  have hM := m_R_fr hM hf1 (Or.inr (by omega))
  have hO := m_O_eq hO (m_eq_put hs1 hf1 (by decide))
  have hf := s_fr_tr hf (s_fr_w (lo' := 212) (hi' := 234) hf1 (by omega) (by omega))
  try replace hp : m_pa (z 0) s1 := ⟨by rw [hs1, pk_un (by decide)]; exact hp.1, fun i hi => by rw [hf1 221 (by omega)]; exact hp.2 i hi⟩
  refine r_aload_n dX12_blocks_5 rfl rfl ?_
  refine s_V0V mX12_findPath dX12_blocks_6 okX12_findPath lX12_202 npX12_findPath lysX12 rfl (by decide) (by decide) (by decide) (Nat.le_of_ble_eq_true rfl) (Nat.le_of_ble_eq_true rfl) (c_findPath hM hO.2.2.2.2.2.2.2.2.2.1 hO.2.2.2.2.2.2.2.2.2.2.1 (z_gd hz)) (fun s1 hq => ?_)
  obtain ⟨hp, ht, hM2, hr1, hr2⟩ := hq
  replace hM := hM2
  replace hO := m_O_eq hO ⟨fun k hk => hr2 k (by omega) (by omega) (by omega) (by omega), fun j hj => hr1 j (by omega)⟩
  replace hf := s_fr_tr hf (lo := 212) (hi := 234) (fun k hk => hr2 k (by omega) (by omega) (by omega) (by omega))
  try replace h3 := (hr1 3 (by decide)).trans h3
  refine r_aload_n dX12_blocks_9 rfl rfl ?_
  refine s_V0I mX12_blockMany dX12_blocks_10 okX12_blockMany lX12_211 npX12_blockMany lysX12 rfl (by decide) (by decide) (by decide) (Nat.le_of_ble_eq_true rfl) (Nat.le_of_ble_eq_true rfl) (c_blockMany hM (z_gd hz) hp) (fun x s1 hq => ?_)
  obtain ⟨rfl, rfl⟩ := hq
  refine s_iret dX12_blocks_13 rfl rfl ?_
  exact m_P_s rfl h3 hM hO hf
set_option maxRecDepth 20000 in
set_option maxHeartbeats 1000000 in
theorem m_path {G : q_G} {s : s_T} {z : z_T} (hz : z_wf z) (hM : m_R (z 0) s) (hO : m_O z s) {a : Int32} : s_W G mX12_path 9 0 0 (m_P (A_path z a) s) 0 (q_ent mX12_path [.ref 212, .int a]) [] s := by
  show s_W G mX12_path 9 0 0 _ 0 [some (.ref 212), some (.int a)] [] s
  have hw := hz.1.1
  have hs := x_sz hw
  have hf : s_fr 212 234 s s := s_fr_rf
  have hg := z_gd hz
  have hplb := (x_pl_ok hg).1
  have hbcb := x_bc_le (q := x_fm (z 0)) (x_pl (z 0))
  refine r_aload_n dX12_path_0 rfl rfl ?_
  refine s_V0V mX12_findPath dX12_path_1 okX12_findPath lX12_202 npX12_findPath lysX12 rfl (by decide) (by decide) (by decide) (Nat.le_of_ble_eq_true rfl) (Nat.le_of_ble_eq_true rfl) (c_findPath hM hO.2.2.2.2.2.2.2.2.2.1 hO.2.2.2.2.2.2.2.2.2.2.1 (z_gd hz)) (fun s1 hq => ?_)
  obtain ⟨hp, ht, hM2, hr1, hr2⟩ := hq
  replace hM := hM2
  replace hO := m_O_eq hO ⟨fun k hk => hr2 k (by omega) (by omega) (by omega) (by omega), fun j hj => hr1 j (by omega)⟩
  replace hf := s_fr_tr hf (lo := 212) (hi := 234) (fun k hk => hr2 k (by omega) (by omega) (by omega) (by omega))
  try replace h3 := (hr1 3 (by decide)).trans h3
  refine r_aload_n dX12_path_4 rfl rfl ?_
  refine r_iload_n dX12_path_5 rfl rfl ?_
  refine r_i2l dX12_path_6 rfl ?_
  refine r_lconst (v := (nI 0).toInt64) dX12_path_7 (by decide) ?_
  refine r_aload_n dX12_path_8 rfl rfl ?_
  refine s_getI dX12_path_9 fX12_199 lysX12 rfl hp.1 ?_
  refine n_const 1 dX12_path_12 (by decide) ?_
  refine r_isub dX12_path_13 ?_
  refine r_i2l dX12_path_14 rfl ?_
  refine s_S3I mX12_in dX12_path_15 okX12_in lX12_82 npX12_in (by decide) (by decide) (by decide) (Nat.le_of_ble_eq_true rfl) (Nat.le_of_ble_eq_true rfl) (c_in3 (by omega)) (fun x s1 hq => ?_)
  obtain ⟨rfl, rfl⟩ := hq
  refine b_ifeq (tgt := 25) dX12_path_18 (by decide) (fun c18 => ?_) (fun c18 => ?_)
  · refine n_const 1 dX12_path_25 (by decide) ?_
    refine a_put dX12_path_26 gX12_79 lysX12 rfl rfl rfl (fun s1 hs1 hf1 => ?_)
    have h3 := (congrFun hs1 3).trans pk_us
    have hM := m_R_fr hM hf1 (Or.inr (by omega))
    have hO := m_O_eq hO (m_eq_put hs1 hf1 (by decide))
    have hf := s_fr_tr hf (s_fr_w (lo' := 212) (hi' := 234) hf1 (by omega) (by omega))
    try replace hp : m_pa (z 0) s1 := ⟨by rw [hs1, pk_un (by decide)]; exact hp.1, fun i hi => by rw [hf1 221 (by omega)]; exact hp.2 i hi⟩
    refine r_aload_n dX12_path_29 rfl rfl ?_
    refine s_getI dX12_path_30 fX12_79 lysX12 rfl h3 ?_
    refine n_ifle (tgt := 40) dX12_path_33 (by decide) (by omega) (fun c33 => ?_) (fun c33 => ?_)
    · exact absurd c33 (by decide)
    · refine n_const 0 dX12_path_36 (by decide) ?_
      refine r_goto (tgt := 45) dX12_path_37 (by decide) ?_
      refine s_iret dX12_path_45 rfl rfl ?_
      first
        | exact m_P_e (by unfold A_path; simp [*]) (by decide) h3 hM hO hf
        | exact m_P_s (by unfold A_path; rw [if_pos c18, ea]) h3 hM hO hf
  · obtain ⟨a, rfl, ha, ha2⟩ := iLt_n c18
    have ea := iN_n ha2
    refine n_const 0 dX12_path_21 (by decide) ?_
    refine r_goto (tgt := 26) dX12_path_22 (by decide) ?_
    refine a_put dX12_path_26 gX12_79 lysX12 rfl rfl rfl (fun s1 hs1 hf1 => ?_)
    have h3 := (congrFun hs1 3).trans pk_us
    have hM := m_R_fr hM hf1 (Or.inr (by omega))
    have hO := m_O_eq hO (m_eq_put hs1 hf1 (by decide))
    have hf := s_fr_tr hf (s_fr_w (lo' := 212) (hi' := 234) hf1 (by omega) (by omega))
    try replace hp : m_pa (z 0) s1 := ⟨by rw [hs1, pk_un (by decide)]; exact hp.1, fun i hi => by rw [hf1 221 (by omega)]; exact hp.2 i hi⟩
    refine r_aload_n dX12_path_29 rfl rfl ?_
    refine s_getI dX12_path_30 fX12_79 lysX12 rfl h3 ?_
    refine n_ifle (tgt := 40) dX12_path_33 (by decide) (by omega) (fun c33 => ?_) (fun c33 => ?_)
    · refine r_aload_n dX12_path_40 rfl rfl ?_
      refine r_iload_n dX12_path_41 rfl rfl ?_
      refine s_V1I mX12_onPath dX12_path_42 okX12_onPath lX12_205 npX12_onPath lysX12 rfl (by decide) (by decide) (by decide) (Nat.le_of_ble_eq_true rfl) (Nat.le_of_ble_eq_true rfl) (c_onPath (z_gd hz) hp ha) (fun x s1 hq => ?_)
      obtain ⟨rfl, rfl⟩ := hq
      refine s_iret dX12_path_45 rfl rfl ?_
      first
        | exact m_P_e (by unfold A_path; simp [*]) (by decide) h3 hM hO hf
        | exact m_P_s (by unfold A_path; rw [if_pos c18, ea]) h3 hM hO hf
    · exact absurd c33 (by decide)
theorem m_bc2 {n : Nat} (h : 0 < n) : nI (n - 1) = (-1 : Int32) + nI n := by rw [Int32.add_comm]; exact (n_dec h).symm
theorem m_bc1 {a b : Nat} (h : b = a + 1) : (-1 : Int32) + nI a + nI 1 = nI (b - 1) := by
  rw [m_bc2 (by omega), Int32.add_assoc, nI_add, h]
theorem m_bc0 {a b : Nat} (h : b = a) (h2 : 0 < b) : (-1 : Int32) + nI a + nI 0 = nI (b - 1) := by
  rw [m_bc2 h2, Int32.add_assoc, nI_add, h]
  rfl
set_option maxRecDepth 20000 in
set_option maxHeartbeats 1000000 in
theorem m_blockLength {G : q_G} {s : s_T} {z : z_T} (hz : z_wf z) (hM : m_R (z 0) s) (hO : m_O z s) {a : Int32} : s_W G mX12_blockLength 9 0 0 (m_P (A_blockLength z a) s) 0 (q_ent mX12_blockLength [.ref 212, .int a]) [] s := by
  show s_W G mX12_blockLength 9 0 0 _ 0 [some (.ref 212), some (.int a), none, none, none] [] s
  have hw := hz.1.1
  have hs := x_sz hw
  have hf : s_fr 212 234 s s := s_fr_rf
  have hg := z_gd hz
  have hplb := (x_pl_ok hg).1
  have hbcb := x_bc_le (q := x_fm (z 0)) (x_pl (z 0))
  generalize hP : m_P (A_blockLength z a) s = PP
  refine r_aload_n dX12_blockLength_0 rfl rfl ?_
  refine s_V0V mX12_findPath dX12_blockLength_1 okX12_findPath lX12_202 npX12_findPath lysX12 rfl (by decide) (by decide) (by decide) (Nat.le_of_ble_eq_true rfl) (Nat.le_of_ble_eq_true rfl) (c_findPath hM hO.2.2.2.2.2.2.2.2.2.1 hO.2.2.2.2.2.2.2.2.2.2.1 (z_gd hz)) (fun s1 hq => ?_)
  obtain ⟨hp, ht, hM2, hr1, hr2⟩ := hq
  replace hM := hM2
  replace hO := m_O_eq hO ⟨fun k hk => hr2 k (by omega) (by omega) (by omega) (by omega), fun j hj => hr1 j (by omega)⟩
  replace hf := s_fr_tr hf (lo := 212) (hi := 234) (fun k hk => hr2 k (by omega) (by omega) (by omega) (by omega))
  try replace h3 := (hr1 3 (by decide)).trans h3
  refine r_aload_n dX12_blockLength_4 rfl rfl ?_
  refine r_iload_n dX12_blockLength_5 rfl rfl ?_
  refine r_i2l dX12_blockLength_6 rfl ?_
  refine r_lconst (v := (nI 0).toInt64) dX12_blockLength_7 (by decide) ?_
  refine r_aload_n dX12_blockLength_8 rfl rfl ?_
  refine s_V0I mX12_blockMany dX12_blockLength_9 okX12_blockMany lX12_211 npX12_blockMany lysX12 rfl (by decide) (by decide) (by decide) (Nat.le_of_ble_eq_true rfl) (Nat.le_of_ble_eq_true rfl) (c_blockMany hM (z_gd hz) hp) (fun x s1 hq => ?_)
  obtain ⟨rfl, rfl⟩ := hq
  refine n_const 1 dX12_blockLength_12 (by decide) ?_
  refine r_isub dX12_blockLength_13 ?_
  refine r_i2l dX12_blockLength_14 rfl ?_
  refine s_S3I mX12_in dX12_blockLength_15 okX12_in lX12_82 npX12_in (by decide) (by decide) (by decide) (Nat.le_of_ble_eq_true rfl) (Nat.le_of_ble_eq_true rfl) (c_in3 (by omega)) (fun x s1 hq => ?_)
  obtain ⟨rfl, rfl⟩ := hq
  refine b_ifeq (tgt := 25) dX12_blockLength_18 (by decide) (fun c18 => ?_) (fun c18 => ?_)
  · refine n_const 1 dX12_blockLength_25 (by decide) ?_
    refine a_put dX12_blockLength_26 gX12_79 lysX12 rfl rfl rfl (fun s1 hs1 hf1 => ?_)
    have h3 := (congrFun hs1 3).trans pk_us
    have hM := m_R_fr hM hf1 (Or.inr (by omega))
    have hO := m_O_eq hO (m_eq_put hs1 hf1 (by decide))
    have hf := s_fr_tr hf (s_fr_w (lo' := 212) (hi' := 234) hf1 (by omega) (by omega))
    try replace hp : m_pa (z 0) s1 := ⟨by rw [hs1, pk_un (by decide)]; exact hp.1, fun i hi => by rw [hf1 221 (by omega)]; exact hp.2 i hi⟩
    refine r_aload_n dX12_blockLength_29 rfl rfl ?_
    refine s_getI dX12_blockLength_30 fX12_79 lysX12 rfl h3 ?_
    refine n_ifle (tgt := 38) dX12_blockLength_33 (by decide) (by omega) (fun c33 => ?_) (fun c33 => ?_)
    · exact absurd c33 (by decide)
    · refine n_const 0 dX12_blockLength_36 (by decide) ?_
      refine s_iret dX12_blockLength_37 rfl rfl ?_
      rw [← hP]
      exact m_P_e (by unfold A_blockLength; simp [*]) (by decide) h3 hM hO hf
  · obtain ⟨a, rfl, ha, ha2⟩ := iLt_n c18
    have ea := iN_n ha2
    refine n_const 0 dX12_blockLength_21 (by decide) ?_
    refine r_goto (tgt := 26) dX12_blockLength_22 (by decide) ?_
    refine a_put dX12_blockLength_26 gX12_79 lysX12 rfl rfl rfl (fun s1 hs1 hf1 => ?_)
    have h3 := (congrFun hs1 3).trans pk_us
    have hM := m_R_fr hM hf1 (Or.inr (by omega))
    have hO := m_O_eq hO (m_eq_put hs1 hf1 (by decide))
    have hf := s_fr_tr hf (s_fr_w (lo' := 212) (hi' := 234) hf1 (by omega) (by omega))
    try replace hp : m_pa (z 0) s1 := ⟨by rw [hs1, pk_un (by decide)]; exact hp.1, fun i hi => by rw [hf1 221 (by omega)]; exact hp.2 i hi⟩
    refine r_aload_n dX12_blockLength_29 rfl rfl ?_
    refine s_getI dX12_blockLength_30 fX12_79 lysX12 rfl h3 ?_
    refine n_ifle (tgt := 38) dX12_blockLength_33 (by decide) (by omega) (fun c33 => ?_) (fun c33 => ?_)
    · refine r_iconst (v := -1) dX12_blockLength_38 (by decide) ?_
      refine r_istore_n dX12_blockLength_39 rfl (by decide) rfl ?_
      refine n_const 0 dX12_blockLength_40 (by decide) ?_
      refine r_istore_n dX12_blockLength_41 rfl (by decide) rfl ?_
      refine n_const 0 dX12_blockLength_42 (by decide) ?_
      refine r_istore dX12_blockLength_43 (by decide) rfl ?_
      have lp : ∀ f i, i ≤ x_pl (z 0) → x_pl (z 0) < i + f → s_W G mX12_blockLength 9 0 0 (PP) 45 [some (.ref 212), some (.int (nI a)), some (.int (-1 + nI (x_bc (x_fm (z 0)) i))), some (.int (nI (x_bl (x_fm (z 0)) a i))), some (.int (nI i))] [] s1 := by
        intro f
        induction f with
        | zero =>
          intro i hi hme
          exact absurd hme (by omega)
        | succ f ih =>
          intro i hi hme
          refine r_iload dX12_blockLength_45 rfl ?_
          refine r_aload_n dX12_blockLength_47 rfl rfl ?_
          refine s_getI dX12_blockLength_48 fX12_199 lysX12 rfl hp.1 ?_
          refine n_cge (tgt := 90) dX12_blockLength_51 (by decide) (by omega) (by omega) (fun c51 => ?_) (fun c51 => ?_)
          · refine r_iload_n dX12_blockLength_90 rfl rfl ?_
            refine s_iret dX12_blockLength_91 rfl rfl ?_
            have e9 : i = x_pl (z 0) := by omega
            subst e9
            rw [← hP]
            exact m_P_s (by unfold A_blockLength; rw [if_pos c18, ea]) h3 hM hO hf
          · refine r_iload_n dX12_blockLength_54 rfl rfl ?_
            refine r_aload_n dX12_blockLength_55 rfl rfl ?_
            refine r_iload dX12_blockLength_56 rfl ?_
            refine s_V1I mX12_beginsBlock dX12_blockLength_58 okX12_beginsBlock lX12_208 npX12_beginsBlock lysX12 rfl (by decide) (by decide) (by decide) (Nat.le_of_ble_eq_true rfl) (Nat.le_of_ble_eq_true rfl) (c_beginsBlock hM hg hp (by omega)) (fun x s1 hq => ?_)
            obtain ⟨rfl, rfl⟩ := hq
            refine b_ifeq (tgt := 68) dX12_blockLength_61 (by decide) (fun c61 => ?_) (fun c61 => ?_)
            · refine n_const 0 dX12_blockLength_68 (by decide) ?_
              refine r_iadd dX12_blockLength_69 ?_
              first
                | (rw [show (-1 : Int32) + nI (x_bc (x_fm (z 0)) i) + nI 1 = nI (x_bc (x_fm (z 0)) (i + 1) - 1) from m_bc1 (by rw [x_bc_s, if_pos c61])])
                | (rw [show (-1 : Int32) + nI (x_bc (x_fm (z 0)) i) + nI 0 = nI (x_bc (x_fm (z 0)) (i + 1) - 1) from m_bc0 (by rw [x_bc_s, if_neg (by rw [c61]; decide), Nat.add_zero]) (x_bc_p (by omega))])
              have hbc1 := x_bc_p (q := x_fm (z 0)) (n := i + 1) (by omega)
              have hbc2 := x_bc_le (q := x_fm (z 0)) (i + 1)
              refine r_istore_n dX12_blockLength_70 rfl (by decide) rfl ?_
              refine r_iload_n dX12_blockLength_71 rfl rfl ?_
              refine r_iload_n dX12_blockLength_72 rfl rfl ?_
              refine r_iload_n dX12_blockLength_73 rfl rfl ?_
              refine n_cne (tgt := 81) dX12_blockLength_74 (by decide) (by omega) (by omega) (fun c74 => ?_) (fun c74 => ?_)
              · refine n_const 0 dX12_blockLength_81 (by decide) ?_
                refine n_add dX12_blockLength_82 ?_
                refine r_istore_n dX12_blockLength_83 rfl (by decide) rfl ?_
                refine n_inc dX12_blockLength_84 rfl (n_i1 _) (by decide) rfl ?_
                refine r_goto (tgt := 45) dX12_blockLength_87 (by decide) ?_
                have e8 : nI (x_bc (x_fm (z 0)) (i + 1) - 1) = (-1 : Int32) + nI (x_bc (x_fm (z 0)) (i + 1)) := m_bc2 hbc1
                rw [e8]
                first
                  | (rw [show x_bl (x_fm (z 0)) a i + 1 = x_bl (x_fm (z 0)) a (i + 1) by rw [x_bl_s, if_pos (by omega)]]; exact ih (i + 1) (by omega) (by omega))
                  | (rw [show x_bl (x_fm (z 0)) a i + 0 = x_bl (x_fm (z 0)) a (i + 1) by rw [x_bl_s, if_neg (by omega)]]; exact ih (i + 1) (by omega) (by omega))
              · refine n_const 1 dX12_blockLength_77 (by decide) ?_
                refine r_goto (tgt := 82) dX12_blockLength_78 (by decide) ?_
                refine n_add dX12_blockLength_82 ?_
                refine r_istore_n dX12_blockLength_83 rfl (by decide) rfl ?_
                refine n_inc dX12_blockLength_84 rfl (n_i1 _) (by decide) rfl ?_
                refine r_goto (tgt := 45) dX12_blockLength_87 (by decide) ?_
                have e8 : nI (x_bc (x_fm (z 0)) (i + 1) - 1) = (-1 : Int32) + nI (x_bc (x_fm (z 0)) (i + 1)) := m_bc2 hbc1
                rw [e8]
                first
                  | (rw [show x_bl (x_fm (z 0)) a i + 1 = x_bl (x_fm (z 0)) a (i + 1) by rw [x_bl_s, if_pos (by omega)]]; exact ih (i + 1) (by omega) (by omega))
                  | (rw [show x_bl (x_fm (z 0)) a i + 0 = x_bl (x_fm (z 0)) a (i + 1) by rw [x_bl_s, if_neg (by omega)]]; exact ih (i + 1) (by omega) (by omega))
            · refine n_const 1 dX12_blockLength_64 (by decide) ?_
              refine r_goto (tgt := 69) dX12_blockLength_65 (by decide) ?_
              refine r_iadd dX12_blockLength_69 ?_
              first
                | (rw [show (-1 : Int32) + nI (x_bc (x_fm (z 0)) i) + nI 1 = nI (x_bc (x_fm (z 0)) (i + 1) - 1) from m_bc1 (by rw [x_bc_s, if_pos c61])])
                | (rw [show (-1 : Int32) + nI (x_bc (x_fm (z 0)) i) + nI 0 = nI (x_bc (x_fm (z 0)) (i + 1) - 1) from m_bc0 (by rw [x_bc_s, if_neg (by rw [c61]; decide), Nat.add_zero]) (x_bc_p (by omega))])
              have hbc1 := x_bc_p (q := x_fm (z 0)) (n := i + 1) (by omega)
              have hbc2 := x_bc_le (q := x_fm (z 0)) (i + 1)
              refine r_istore_n dX12_blockLength_70 rfl (by decide) rfl ?_
              refine r_iload_n dX12_blockLength_71 rfl rfl ?_
              refine r_iload_n dX12_blockLength_72 rfl rfl ?_
              refine r_iload_n dX12_blockLength_73 rfl rfl ?_
              refine n_cne (tgt := 81) dX12_blockLength_74 (by decide) (by omega) (by omega) (fun c74 => ?_) (fun c74 => ?_)
              · refine n_const 0 dX12_blockLength_81 (by decide) ?_
                refine n_add dX12_blockLength_82 ?_
                refine r_istore_n dX12_blockLength_83 rfl (by decide) rfl ?_
                refine n_inc dX12_blockLength_84 rfl (n_i1 _) (by decide) rfl ?_
                refine r_goto (tgt := 45) dX12_blockLength_87 (by decide) ?_
                have e8 : nI (x_bc (x_fm (z 0)) (i + 1) - 1) = (-1 : Int32) + nI (x_bc (x_fm (z 0)) (i + 1)) := m_bc2 hbc1
                rw [e8]
                first
                  | (rw [show x_bl (x_fm (z 0)) a i + 1 = x_bl (x_fm (z 0)) a (i + 1) by rw [x_bl_s, if_pos (by omega)]]; exact ih (i + 1) (by omega) (by omega))
                  | (rw [show x_bl (x_fm (z 0)) a i + 0 = x_bl (x_fm (z 0)) a (i + 1) by rw [x_bl_s, if_neg (by omega)]]; exact ih (i + 1) (by omega) (by omega))
              · refine n_const 1 dX12_blockLength_77 (by decide) ?_
                refine r_goto (tgt := 82) dX12_blockLength_78 (by decide) ?_
                refine n_add dX12_blockLength_82 ?_
                refine r_istore_n dX12_blockLength_83 rfl (by decide) rfl ?_
                refine n_inc dX12_blockLength_84 rfl (n_i1 _) (by decide) rfl ?_
                refine r_goto (tgt := 45) dX12_blockLength_87 (by decide) ?_
                have e8 : nI (x_bc (x_fm (z 0)) (i + 1) - 1) = (-1 : Int32) + nI (x_bc (x_fm (z 0)) (i + 1)) := m_bc2 hbc1
                rw [e8]
                first
                  | (rw [show x_bl (x_fm (z 0)) a i + 1 = x_bl (x_fm (z 0)) a (i + 1) by rw [x_bl_s, if_pos (by omega)]]; exact ih (i + 1) (by omega) (by omega))
                  | (rw [show x_bl (x_fm (z 0)) a i + 0 = x_bl (x_fm (z 0)) a (i + 1) by rw [x_bl_s, if_neg (by omega)]]; exact ih (i + 1) (by omega) (by omega))
      exact lp (x_pl (z 0) + 1) 0 (by omega) (by omega)
    · exact absurd c33 (by decide)
