/-! ===== what is made ===== -/
theorem q_map_id {ad : Nat → Nat} {fs : List Value} (h : ∀ k, Value.ref k ∉ fs) : fs.map (q_v ad) = fs := by
  conv => rhs; rw [← List.map_id fs]
  refine List.map_congr_left fun v hv => ?_
  cases v with
  | ref k => exact absurd hv (h k)
  | _ => rfl
theorem q_RA_tid {D : va_G} {s : State} {tid : Nat → ClassId} {cl : List vw_C} (hK : va_K D cl (q_ty tid) s) {cA : ClassId} {t : Nat} {ty : FieldType} (ht : (q_ty tid)[t]? = some (tid t, ty)) (h : va_RA s cA ty) (hty : ∀ C, ty ≠ .object C) : cA = tid t := by
  have h1 := (hK.2 t _ ht).2
  cases ty with
  | object C => exact absurd rfl (hty C)
  | _ => exact Option.some.inj (h.symm.trans h1)
section QR7
variable {G : q_G} {M : q_M} {d C S : Nat} {Post : q_R → Nat → q_H → Prop} {pc : Nat} {L : List (Option Value)} {st : List Value} {n : Nat} {h : q_H}
/-- one cell more -/
theorem q_grow {p : Program} {l : Launch} {e : Env} {R : Room} {s : State} {m : MethodId} {args : Array Value} {below : List Frame} {meth : Method} {c : Code} {H : Heap} {locs : List Loc} {cells slots : Nat} {ls : Array Slot} {A : Nat → Prop} {ad ad0 : Nat → Nat} {n0 q pc' : Nat} {H1 : Heap} {x : q_C} {C' S' : Nat}
    (hF : q_F G M d p l R s m args meth c A (ad 1000000) (ad 1000001)) (hS : q_S G ad n h A s.heap H locs) (hn : n0 ≤ n ∧ ∀ k, k < n0 ∨ 1000000 ≤ k → ad k = ad0 k) (hc : cells + C' ≤ R.cells ∧ slots + S' ≤ R.slots) (hl : q_L ad M.2.2.2.1 ls L) (hst : q_os n st) (hL : q_oL n L) (h9 : n < 900000) (hx : q_ok (n + 1) x)
    (hP : va_P G.1 vwCl (q_w G.2.1 ad n h ++ [(q, q_e G.2.1 (va_up ad n q) x)]) H1) (hD : va_D A (q_w G.2.1 ad n h ++ [(q, q_e G.2.1 (va_up ad n q) x)])) (hSS : va_S A s.heap H1 locs) (K : q_W G M d C' S' Post pc' L (.ref n :: st) (n + 1) (va_up h n x)) :
    W p l e R s m args below meth c H1 locs cells slots (vx_MQ below (q_Qc G ad0 n0 Post A) (q_XC G ad0 n0 Post A) args s R.cells R.slots A) (F0 m pc' ls (.ref q :: st.map (q_v ad))) := by
  have ea : ∀ k, k < n ∨ 1000000 ≤ k → va_up ad n q k = ad k := fun k hk => by
    unfold va_up
    rw [if_neg (by omega)]
  have en : va_up ad n q n = q := by simp [va_up]
  have e1 := q_w_push (tid := G.2.1) (h := h) (x := x) hS.2.2.2.1 (ad' := va_up ad n q) (fun k hk => ea k (Or.inl hk)) en
  rw [e1] at hP hD
  have hF1 : q_F G M d p l R s m args meth c A (va_up ad n q 1000000) (va_up ad n q 1000001) := by rw [ea _ (Or.inr (Nat.le_refl _)), ea _ (Or.inr (Nat.le_of_ble_eq_true rfl))]; exact hF
  have K1 := K p l e R s m args below meth c H1 locs cells slots ls A (va_up ad n q) ad0 n0 hF1 ⟨hP, hD, hSS, fun k hk => by
    by_cases e2 : k = n
    · subst e2; rw [show va_up h k x k = x by simp [va_up]]; exact hx
    · rw [show va_up h n x k = h k by simp [va_up, e2]]; exact q_ok_mono (Nat.le_succ n) (hS.2.2.2.1 k (by omega)), h9⟩ ⟨by omega, fun k hk => (ea k (by omega)).trans (hn.2 k hk)⟩ hc (q_L_congr hL hl ea) (q_os_c (q_ov_r (Or.inl (Nat.lt_succ_self n))) (q_os_mono (Nat.le_succ n) hst)) (q_oL_mono (Nat.le_succ n) hL)
  have e3 : (Value.ref n :: st).map (q_v (va_up ad n q)) = .ref q :: st.map (q_v ad) := by
    rw [List.map_cons, q_st_congr hst ea]
    show Value.ref (va_up ad n q n) :: _ = _
    rw [en]
  rw [e3] at K1
  exact K1
theorem r_new {idx ci N : Nat} {CC : String} {T : u_T} {fs : List Value} (ty : Nat → FieldType) (dc : decode M.2.2.1 pc = .ok (.new idx, 3)) (hci : vwCl[ci]? = some (CC, T, N)) (hty : ∀ k, k < N → parseFieldDescriptor (T k).2.2.1 = some (ty k)) (hws : ∀ w ∈ u_ws CC T N, w ∈ q_tw) (hw1 : Cond.classLink M.1 idx CC ∈ q_tw) (hw2 : Cond.instantiable CC N ∈ q_tw) (hw3 : Cond.initialized CC ∈ q_tw) (hfs : ∀ j, j < N → defaultValue (ty j) = vp_V fs j) (hnr : ∀ k, Value.ref k ∉ fs) (hC : 1 ≤ C) (hS2 : N ≤ S) (h9 : n < 900000)
    (K : q_W G M d (C - 1) (S - N) Post (pc + 3) L (.ref n :: st) (n + 1) (va_up h n (.inr (ci, fs)))) : q_W G M d C S Post pc L st n h := by
  intro p l e R s m args below meth c H locs cells slots ls A ad ad0 n0 hF hS hn hc hl hst hL
  have hts := hF.2.2.2.2.2.2.2.2.1
  refine va_new hF.1 hF.2.1 hts hws ty hty hF.2.2.2.2.2.2.2.1 (hts _ hw1) (hts _ hw2) (hts _ hw3) hF.2.2.2.2.2.2.2.2.2.1 hS.1 hS.2.1 hS.2.2.1 hF.2.2.2.2.2.2.2.2.2.2.2.2.1 hci hfs (by omega) (by omega) dc (fun q H1 hP hD hSS => ?_)
  have e1 : q_e G.2.1 (va_up ad n q) (.inr (ci, fs)) = .inr (ci, fs) := by
    show Sum.inr (ci, fs.map (q_v (va_up ad n q))) = _
    rw [q_map_id hnr]
  exact q_grow (x := .inr (ci, fs)) hF hS hn ⟨by omega, by omega⟩ hl hst hL h9 (fun k hk => absurd hk (hnr k)) (by rw [e1]; exact hP) (by rw [e1]; exact hD) hSS K
theorem r_newa {at' : ArrayType} {t N : Nat} {x : Int32} {ty : FieldType} {b : vp_A} (dc : decode M.2.2.1 pc = .ok (.newarray at', 2)) (hty : newarray.typeOf at' = ty) (ht : ∀ tid, (q_ty tid)[t]? = some (tid t, ty)) (hno : ∀ CC, ty ≠ .object CC) (hw : Cond.arrayClass ty ∈ q_tw) (hb : ∀ cA : ClassId, vp_cell cA b = arrV cA N (fun _ => defaultValue ty)) (hbr : ∀ f, b.2 ≠ .inr (.inr (.inr (.inr f)))) (hx : ¬ x < 0) (hN : x.toNatClampNeg = N) (hby : N * componentBytes ty ≤ 536870912) (hC : 1 ≤ C) (hS2 : N ≤ S) (h9 : n < 900000)
    (K : q_W G M d (C - 1) (S - N) Post (pc + 2) L (.ref n :: st) (n + 1) (va_up h n (.inl (t, b)))) : q_W G M d C S Post pc L (.int x :: st) n h := by
  intro p l e R s m args below meth c H locs cells slots ls A ad ad0 n0 hF hS hn hc hl hst hL
  have hts := hF.2.2.2.2.2.2.2.2.1
  have hK := hF.2.2.2.2.2.2.2.2.2.1
  refine va_newa hF.1 hF.2.1 (by rw [hty]; exact hts _ hw) hty hK hS.1 hS.2.1 hS.2.2.1 hF.2.2.2.2.2.2.2.2.2.2.2.2.1 hb hx hN hby (by omega) (by omega) dc (fun q cA H1 hK2 hP hD hSS => ?_)
  have hcA : cA = G.2.1 t := q_RA_tid hK (ht _) ((hK2.2 6 (cA, ty) rfl).2) hno
  subst hcA
  have e1 : q_e G.2.1 (va_up ad n q) (.inl (t, b)) = .inl (G.2.1 t, b) := by
    show Sum.inl (G.2.1 t, q_a (va_up ad n q) b) = _
    obtain ⟨len, b⟩ := b
    rcases b with f | f | f | f | f
    · rfl
    · rfl
    · rfl
    · rfl
    · exact absurd rfl (hbr f)
  exact q_grow (x := .inl (t, b)) hF hS hn ⟨by omega, by omega⟩ hl (q_os_t hst) hL h9 (fun f hf => absurd hf (hbr f)) (by rw [e1]; exact hP) (by rw [e1]; exact hD) hSS K
/-- rows of ints: the outer array at n, the rows behind it -/
def q_mn (h : q_H) (n N K : Nat) : q_H := fun k => if k = n then .inl (5, (N, .inr (.inr (.inr (.inr (fun i => if i < N then some (n + 1 + i) else none)))))) else if n < k ∧ k < n + 1 + N then .inl (0, (K, .inl (fun _ => 0))) else h k
theorem r_mna {idx N K' : Nat} {x y : Int32} (dc : decode M.2.2.1 pc = .ok (.multianewarray idx 2, 4)) (hw : Cond.classLink M.1 idx ("[" ++ (FieldType.array .int).toString) ∈ q_tw) (hw2 : Cond.arrayClass .int ∈ q_tw) (hx : ¬ x < 0) (hy : ¬ y < 0) (hN : x.toNatClampNeg = N) (hK' : y.toNatClampNeg = K') (hb1 : N * 4 ≤ 536870912) (hb2 : K' * componentBytes .int ≤ 536870912) (hb3 : K' ≤ 536870912) (hC : 1 + N ≤ C) (hS2 : N + N * K' ≤ S) (h9 : n + 1 + N ≤ 900000)
    (K : q_W G M d (C - (1 + N)) (S - (N + N * K')) Post (pc + 4) L (.ref n :: st) (n + 1 + N) (q_mn h n N K')) : q_W G M d C S Post pc L (.int y :: .int x :: st) n h := by
  intro p l e R s m args below meth c H locs cells slots ls A ad ad0 n0 hF hS hn hc hl hst hL
  have hts := hF.2.2.2.2.2.2.2.2.1
  have hK := hF.2.2.2.2.2.2.2.2.2.1
  have hX := hF.2.2.2.2.2.2.2.2.2.2.2.2.2
  have hcy : s.vm.findClass (FieldType.array .int).toString = some (G.2.1 0) := (hK.2 0 (G.2.1 0, .int) rfl).2
  have e0 : q_w G.2.1 ad n h = q_w G.2.1 ad n h ++ va_pl [] (fun _ => .inl (G.2.1 0, (0, .inl (fun _ => 0)))) := by simp [va_pl]
  refine va_mna (X := q_w G.2.1 ad n h) (L := []) (f := fun _ => .inl (G.2.1 0, (0, .inl (fun _ => 0)))) (z := (K', .inl (fun _ => 0))) hF.1 hF.2.1 hF.2.2.2.2.2.2.2.1 (hts _ hw) hX.2.2.2.2.1 (hts _ hw2) hcy hK (by rw [← e0]; exact hS.1) (by rw [← e0]; exact hS.2.1) hS.2.2.1 hF.2.2.2.2.2.2.2.2.2.2.2.2.1 hx hy hN hK' hb1 hb2 hb3 rfl rfl (by omega) (by omega) (fun cc => arrV_new cc K' (.int 0)) dc (fun q r cA H1 hr1 hr2 hK2 hP hD hSS => ?_)
  have hcA : cA = G.2.1 5 := q_RA_tid hK (t := 5) rfl ((hK2.2 6 (cA, .array .int) rfl).2) (fun CC q => by cases q)
  subst hcA
  generalize had : (fun k => if k = n then q else if n < k ∧ k < n + 1 + N then r (k - (n + 1)) else ad k : Nat → Nat) = ad1
  have ea : ∀ k, k < n ∨ 1000000 ≤ k → ad1 k = ad k := fun k hk => by
    rw [← had]
    show (if k = n then q else if n < k ∧ k < n + 1 + N then r (k - (n + 1)) else ad k) = ad k
    rw [if_neg (by omega), if_neg (by omega)]
  have en : ad1 n = q := by rw [← had]; show (if n = n then q else _) = q; rw [if_pos rfl]
  have er : ∀ i, i < N → ad1 (n + 1 + i) = r i := fun i hi => by
    rw [← had]
    show (if n + 1 + i = n then q else if n < n + 1 + i ∧ n + 1 + i < n + 1 + N then r (n + 1 + i - (n + 1)) else _) = r i
    rw [if_neg (by omega), if_pos (by omega), show n + 1 + i - (n + 1) = i by omega]
  have e1 : (q_w G.2.1 ad n h ++ [(q, .inl (G.2.1 5, N, .inr (.inr (.inr (.inr (fun i => if i < N then some (r i) else none))))))]) ++ va_pl ([] ++ (List.range N).map r) (vr_up (fun _ => .inl (G.2.1 0, (0, .inl (fun _ => 0)))) ((List.range N).map r) (.inl (G.2.1 0, (K', .inl (fun _ => 0))))) = q_w G.2.1 ad1 (n + 1 + N) (q_mn h n N K') := by
    apply List.ext_getElem?
    intro i
    by_cases h1 : i < n
    · rw [List.getElem?_append_left (by rw [List.length_append, q_w_len]; omega), List.getElem?_append_left (by rw [q_w_len]; exact h1), q_w_at h1, q_w_at (by omega), ea i (Or.inl h1), show q_mn h n N K' i = h i by unfold q_mn; rw [if_neg (by omega), if_neg (by omega)], q_e_congr (hS.2.2.2.1 i h1) (fun k hk => ea k (Or.inl hk))]
    · by_cases h2 : i = n
      · subst h2
        rw [List.getElem?_append_left (by rw [List.length_append, q_w_len]; show i < i + 1; omega), List.getElem?_append_right (by rw [q_w_len]; omega), q_w_len, Nat.sub_self, q_w_at (by omega), en, show q_mn h i N K' i = .inl (5, (N, .inr (.inr (.inr (.inr (fun j => if j < N then some (i + 1 + j) else none)))))) by unfold q_mn; rw [if_pos rfl]]
        have e2 : (fun j => (if j < N then some (i + 1 + j) else none : Option Nat).map ad1) = (fun j => if j < N then some (r j) else none) := by
          funext j
          by_cases hj : j < N
          · rw [if_pos hj, if_pos hj, Option.map_some, er j hj]
          · rw [if_neg hj, if_neg hj]; rfl
        show some (q, Sum.inl (G.2.1 5, N, _)) = some (q, Sum.inl (G.2.1 5, N, Sum.inr (Sum.inr (Sum.inr (Sum.inr (fun j => (if j < N then some (i + 1 + j) else none : Option Nat).map ad1))))))
        rw [e2]
      · by_cases h3 : i < n + 1 + N
        · rw [List.getElem?_append_right (by rw [List.length_append, q_w_len]; show n + 1 ≤ i; omega), List.length_append, q_w_len]
          show (va_pl ([] ++ (List.range N).map r) _)[i - (n + 1)]? = _
          unfold va_pl
          rw [List.nil_append, List.getElem?_map, List.getElem?_map, List.getElem?_range (by omega), q_w_at h3, show i = n + 1 + (i - (n + 1)) by omega, er (i - (n + 1)) (by omega)]
          rw [show n + 1 + (i - (n + 1)) - (n + 1) = i - (n + 1) by omega]
          show some (r (i - (n + 1)), vr_up _ _ _ (r (i - (n + 1)))) = _
          rw [vr_up_in (List.mem_map.mpr ⟨i - (n + 1), List.mem_range.mpr (by omega), rfl⟩), show q_mn h n N K' (n + 1 + (i - (n + 1))) = .inl (0, (K', .inl (fun _ => 0))) by unfold q_mn; rw [if_neg (by omega), if_pos (by omega)]]
          rfl
        · rw [List.getElem?_eq_none (by rw [List.length_append, List.length_append, q_w_len]; unfold va_pl; rw [List.nil_append, List.length_map, List.length_map, List.length_range]; show n + 1 + N ≤ i; omega), List.getElem?_eq_none (by rw [q_w_len]; omega)]
  rw [e1] at hP hD
  have hF1 : q_F G M d p l R s m args meth c A (ad1 1000000) (ad1 1000001) := by rw [ea _ (Or.inr (Nat.le_refl _)), ea _ (Or.inr (Nat.le_of_ble_eq_true rfl))]; exact hF
  have K1 := K p l e R s m args below meth c H1 locs (cells + 1 + N) (slots + N + N * K') ls A ad1 ad0 n0 hF1 ⟨hP, hD, hSS, fun k hk => by
    unfold q_mn
    by_cases e2 : k = n
    · rw [if_pos e2]
      intro f hf j i hj
      cases hf
      dsimp only at hj
      by_cases e3 : j < N
      · rw [if_pos e3] at hj; cases hj; omega
      · rw [if_neg e3] at hj; cases hj
    · rw [if_neg e2]
      by_cases e3 : n < k ∧ k < n + 1 + N
      · rw [if_pos e3]; exact q_ok_n (fun f q => by cases q)
      · rw [if_neg e3]; exact q_ok_mono (by omega) (hS.2.2.2.1 k (by omega)), h9⟩ ⟨by omega, fun k hk => (ea k (by omega)).trans (hn.2 k hk)⟩ ⟨by omega, by omega⟩ (q_L_congr hL hl ea) (q_os_c (q_ov_r (Or.inl (by omega))) (q_os_mono (by omega) (q_os_t (q_os_t hst)))) (q_oL_mono (by omega) hL)
  have e3 : (Value.ref n :: st).map (q_v ad1) = .ref q :: st.map (q_v ad) := by
    rw [List.map_cons, q_st_congr (q_os_t (q_os_t hst)) ea]
    show Value.ref (ad1 n) :: _ = _
    rw [en]
  rw [e3] at K1
  exact K1
end QR7
