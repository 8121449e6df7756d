/-! ===== words ===== -/
def q_tw : List Cond := lw_tbl.filter goodWord
theorem q_in {w : Cond} (h : w ∈ lw_tbl) (g : goodWord w = true) : w ∈ q_tw := List.mem_filter.mpr ⟨h, g⟩
theorem q_tw_good {w : Cond} (h : w ∈ q_tw) : (w.onTables && w.keeps) = true ∨ ∃ ty, w = .arrayClass ty := good_of_word (List.mem_filter.mp h).2
theorem q_goodIn {ws : List Cond} (h : ∀ w ∈ ws, w ∈ q_tw) : GoodIn q_tw ws := fun w hw => ⟨h w hw, q_tw_good (h w hw)⟩
def q_isE (w : Cond) : Bool := match w with
  | .castable _ _ => true
  | .methodLinkNest _ _ _ _ => true
  | .declares _ => true
  | _ => false
def q_ew : List Cond := lw_tbl.filter q_isE
def q_str : List (String × Nat × String) := lw_tbl.filterMap fun w => match w with
  | .stringRef a b c => some (a, b, c)
  | _ => none
abbrev q_IA : String := "java/lang/IllegalArgumentException"
abbrev q_IS : String := "java/lang/IllegalStateException"
abbrev q_IO : String := "java/lang/IndexOutOfBoundsException"
abbrev q_NS : String := "java/util/NoSuchElementException"
def q_nc : List (String × String) := [(q_IA, q_IS), (q_IA, q_IO), (q_IA, q_NS), (q_IS, q_IA), (q_IS, q_IO), (q_IS, q_NS), (q_IO, q_IA), (q_IO, q_IS), (q_IO, q_NS), (q_NS, q_IA), (q_NS, q_IS), (q_NS, q_IO)]
theorem q_ew_warm {w : Cond} (hw : q_isE w = true) {s U : State} (hW : s.WarmedH U.vm) (h : va_Nw w s) : va_Nw w U := by
  cases w with
  | castable a b =>
    have h1 : (Cond.castable a b).before #[] (s.setVm U.vm) = true := by rw [Cond.castable_setVm hW.alike]; exact h
    exact va_tabs rfl (rfl : (s.setVm U.vm).vm = U.vm) h1
  | methodLinkNest a i x b => exact va_Nw.warmM hW h
  | declares x => exact va_Nw.warmD hW h
  | _ => simp [q_isE] at hw
theorem q_AOA_spec {ty : FieldType} {U : State} (h : va_AOA ty U) : ∃ (comp c : ClassId) (k : Class), U.vm.findClass (FieldType.array ty).toString = some comp ∧ (U.vm.classes.findIdx? fun (x : Class) => match x.kind with | .array component _ => component == comp | _ => false) = some c ∧ U.vm.classes[c]? = some k ∧ k.kind = .array comp (.array ty) ∧ U.vm.findClass ("[" ++ (FieldType.array ty).toString) = some c := by
  unfold va_AOA Cond.before at h
  simp only [Cond.holds, Cond.value, beq_iff_eq] at h
  cases hc : U.vm.findClass (FieldType.array ty).toString with
  | none => simp [hc] at h
  | some comp =>
    simp only [hc, Option.bind_some, Option.bind_eq_some_iff, Option.map_eq_some_iff] at h
    obtain ⟨c, hi, k, hk, hb⟩ := h
    obtain ⟨hlt, hp, -⟩ := Array.findIdx?_eq_some_iff_getElem.mp hi
    have hkk : U.vm.classes[c] = k := (Array.getElem?_eq_some_iff.mp hk).2
    rw [hkk] at hp
    cases hkind : k.kind with
    | array component t2 =>
      rw [hkind] at hb hp
      simp at hb hp
      exact ⟨comp, c, k, rfl, hi, hk, by rw [hkind, hp, hb.1], hb.2⟩
    | _ => rw [hkind] at hb; simp at hb
theorem q_AOA_moved {ty : FieldType} {u U : State} (hvm : u.vm.Alike U.vm) (h : va_AOA ty u) : va_AOA ty U := by
  obtain ⟨comp, c, k, h1, h2, h3, h4, h5⟩ := q_AOA_spec h
  obtain ⟨k', hk', he⟩ := hvm.2.2 _ _ h3
  have hi : (U.vm.classes.findIdx? fun (x : Class) => match x.kind with | .array component _ => component == comp | _ => false) = some c := by
    have e1 := va_idx_bare U.vm comp
    have e2 := va_idx_bare u.vm comp
    first | rw [hvm.bare_eq] at e1 | rw [← hvm.bare_eq] at e1
    exact e1.symm.trans (e2.trans h2)
  have hkind : k'.kind = .array comp (.array ty) := by rw [he]; exact h4
  have f1 : U.vm.findClass (FieldType.array ty).toString = some comp := by rw [hvm.findClass]; exact h1
  have f2 : U.vm.findClass ("[" ++ (FieldType.array ty).toString) = some c := by rw [hvm.findClass]; exact h5
  unfold va_AOA Cond.before
  simp only [Cond.holds, Cond.value, f1, Option.bind_some, beq_iff_eq]
  rw [Option.bind_eq_some_iff]
  refine ⟨c, hi, ?_⟩
  simp [hk', hkind, f2]
/-! ===== what lies outside the world and stays: the script, the class's own table, what a throw reads ===== -/
def q_lim : Nat → Int32 := fun j => if j = 0 then 99 else if j = 1 then 200 else 9
def q_X (Ln : Nat) (xs : Nat → Int32) (b bl : Nat) (A : Nat → Prop) (U : State) (H : Heap) : Prop :=
  (va_X b Ln xs U H ∧ b < H.size ∧ ¬ A b) ∧ (va_Z RX11 "JOB_LIMITS" "[I" (.ref bl) A U H ∧ va_X bl 3 q_lim U H ∧ bl < H.size ∧ ¬ A bl) ∧
  (vx_Zq Bundle.tN "UNASSIGNED_STACK" Bundle.steD A U H ∧ vx_Zq Bundle.tN "SUPPRESSED_SENTINEL" Bundle.listD A U H) ∧
  (∀ w ∈ q_ew, va_Nw w U) ∧ va_AOA .int U ∧ (∀ z ∈ q_str, ∃ sa, vk_R z.1 z.2.1 z.2.2 sa U) ∧ (∀ z ∈ q_nc, va_Nc z.1 z.2 U)
theorem q_X_move {Ln : Nat} {xs : Nat → Int32} {b bl : Nat} {A A' : Nat → Prop} {s U : State} {H : Heap} {locs : List Loc} (h : q_X Ln xs b bl A s s.heap) (hS : va_S A s.heap H locs) (hW : s.WarmedH U.vm) (hA : ∀ q, A' q → A q) : q_X Ln xs b bl A' U H := by
  obtain ⟨⟨a1, a2, a3⟩, ⟨b1, b2, b3, b4⟩, ⟨c1, c2⟩, d1, d2, d3, d4⟩ := h
  have hz := hS.1
  exact ⟨⟨(a1.kept (hS.2.1 b a2 a3)).moved hW.alike, by omega, fun q => a3 (hA _ q)⟩, ⟨((b1.kept hS.2.1).moved hW.alike).narrow hA, (b2.kept (hS.2.1 bl b3 b4)).moved hW.alike, by omega, fun q => b4 (hA _ q)⟩,
    ⟨((c1.kept hS.2.1).moved hW.alike).narrow hA, ((c2.kept hS.2.1).moved hW.alike).narrow hA⟩, fun w hw => q_ew_warm (List.mem_filter.mp hw).2 hW (d1 w hw), q_AOA_moved hW.alike d2, fun z hz => (d3 z hz).imp fun sa h => vk_R.warm hW h, fun z hz => va_Nc.moved hW.alike (d4 z hz)⟩
/-! ===== the judgement ===== -/
def q_cd (M : q_M) : Cond := match M.2.2.2.2.2 with
  | [] => .code M.2.1 M.2.2.1 M.2.2.2.1 M.2.2.2.2.1
  | hh => .codeWith M.2.1 M.2.2.1 M.2.2.2.1 M.2.2.2.2.1 hh
def q_F (G : q_G) (M : q_M) (d : Nat) (p : Program) (l : Launch) (R : Room) (s : State) (m : MethodId) (args : Array Value) (meth : Method) (c : Code) (A : Nat → Prop) (b bl : Nat) : Prop :=
  p.tables.exec = Jvm.exec ∧ c.code = M.2.2.1 ∧ c.maxLocals = M.2.2.2.1 ∧ meth.sig.returnType = M.2.2.2.2.1 ∧ meth.locks = false ∧ meth.name = M.2.1.name ∧ c.exceptionTable.toList = tableOf M.2.2.2.2.2 ∧ s.vm.findClass M.1 = some m.cls ∧ (∀ w ∈ q_tw, w.before args s = true) ∧
  va_K G.1 vwCl (q_ty G.2.1) s ∧ l.stackTraces = false ∧ (d ≤ R.frames ∧ 60 * d + 60 ≤ R.locals) ∧ (∀ q, s.heap.size ≤ q → A q) ∧ q_X G.2.2.1 G.2.2.2 b bl A s s.heap
def q_S (G : q_G) (ad : Nat → Nat) (n : Nat) (h : q_H) (A : Nat → Prop) (H0 H : Heap) (locs : List Loc) : Prop :=
  va_P G.1 vwCl (q_w G.2.1 ad n h) H ∧ va_D A (q_w G.2.1 ad n h) ∧ va_S A H0 H locs ∧ (∀ k, k < n → q_ok n (h k)) ∧ n ≤ 900000
def q_E (G : q_G) (ad0 : Nat → Nat) (n0 : Nat) (A : Nat → Prop) (st t : State) (ad : Nat → Nat) (n : Nat) (h : q_H) : Prop :=
  n0 ≤ n ∧ (∀ k, k < n0 ∨ 1000000 ≤ k → ad k = ad0 k) ∧ va_P G.1 vwCl (q_w G.2.1 ad n h) t.heap ∧ va_D A (q_w G.2.1 ad n h) ∧ (∀ k, k < n → q_ok n (h k)) ∧ n ≤ 900000 ∧ va_F A st t
def q_Qc (G : q_G) (ad0 : Nat → Nat) (n0 : Nat) (Post : q_R → Nat → q_H → Prop) (A : Nat → Prop) : Array Value → State → Outcome → State → Prop := fun _ st o t =>
  ∃ (v : Option Value) (n : Nat) (h : q_H) (ad : Nat → Nat), o = .returned (v.map (q_v ad)) ∧ Post (.inl v) n h ∧ (∀ x, v = some x → q_ov n x) ∧ q_E G ad0 n0 A st t ad n h
def q_XC (G : q_G) (ad0 : Nat → Nat) (n0 : Nat) (Post : q_R → Nat → q_H → Prop) (A : Nat → Prop) : String → State → State → Prop := fun E st t =>
  ∃ (n : Nat) (h : q_H) (ad : Nat → Nat), Post (.inr E) n h ∧ q_E G ad0 n0 A st t ad n h
/-- from pc, with the locals L, the stack st and the cells (n, h), the method ends so that Post holds of its end; d: the frames that it may nest, C and S: the cells and slots that it may make -/
def q_W (G : q_G) (M : q_M) (d C S : Nat) (Post : q_R → Nat → q_H → Prop) (pc : Nat) (L : List (Option Value)) (st : List Value) (n : Nat) (h : q_H) : Prop :=
  ∀ (p : Program) (l : Launch) (e : Env) (R : Room) (s : State) (m : MethodId) (args : Array Value) (below : List Frame) (meth : Method) (c : Code) (H : Heap) (locs : List Loc) (cells slots : Nat) (ls : Array Slot) (A : Nat → Prop) (ad ad0 : Nat → Nat) (n0 : Nat),
    q_F G M d p l R s m args meth c A (ad 1000000) (ad 1000001) → q_S G ad n h A s.heap H locs → (n0 ≤ n ∧ ∀ k, k < n0 ∨ 1000000 ≤ k → ad k = ad0 k) → (cells + C ≤ R.cells ∧ slots + S ≤ R.slots) → q_L ad M.2.2.2.1 ls L → q_os n st → q_oL n L →
    W p l e R s m args below meth c H locs cells slots (vx_MQ below (q_Qc G ad0 n0 Post A) (q_XC G ad0 n0 Post A) args s R.cells R.slots A) (F0 m pc ls (st.map (q_v ad)))
/-- .. with an exception of the class E thrown at pc -/
def q_WX (G : q_G) (M : q_M) (d C S : Nat) (Post : q_R → Nat → q_H → Prop) (pc : Nat) (L : List (Option Value)) (n : Nat) (h : q_H) (E : String) : Prop :=
  ∀ (p : Program) (l : Launch) (e : Env) (R : Room) (s : State) (m : MethodId) (args : Array Value) (below : List Frame) (meth : Method) (c : Code) (H : Heap) (locs : List Loc) (cells slots : Nat) (ls : Array Slot) (A : Nat → Prop) (ad ad0 : Nat → Nat) (n0 : Nat) (rest : List Value) (q9 : Addr) (ce : Cell),
    q_F G M d p l R s m args meth c A (ad 1000000) (ad 1000001) → q_S G ad n h A s.heap H locs → (n0 ≤ n ∧ ∀ k, k < n0 ∨ 1000000 ≤ k → ad k = ad0 k) → (cells + C ≤ R.cells ∧ slots + S ≤ R.slots) → q_L ad M.2.2.2.1 ls L → q_oL n L →
    H[q9]? = some ce → ce.vm = .none → s.vm.findClass E = some ce.cls →
    vx_W p l e R s m args below meth c H locs cells slots (vx_MQ below (q_Qc G ad0 n0 Post A) (q_XC G ad0 n0 Post A) args s R.cells R.slots A) (F0 m pc ls rest) q9
theorem q_F_mono {G : q_G} {M : q_M} {d d' : Nat} (hd : d ≤ d') {p : Program} {l : Launch} {R : Room} {s : State} {m : MethodId} {args : Array Value} {meth : Method} {c : Code} {A : Nat → Prop} {b bl : Nat} (h : q_F G M d' p l R s m args meth c A b bl) : q_F G M d p l R s m args meth c A b bl := by
  obtain ⟨f1, f2, f3, f4, f5, f6, f7, f8, f9, f10, f11, f12, f13, f14⟩ := h
  exact ⟨f1, f2, f3, f4, f5, f6, f7, f8, f9, f10, f11, ⟨by omega, by omega⟩, f13, f14⟩
/-- less room asked, a weaker end -/
theorem q_W_mono {G : q_G} {M : q_M} {d d' C C' S S' : Nat} {Post Post' : q_R → Nat → q_H → Prop} {pc : Nat} {L : List (Option Value)} {st : List Value} {n : Nat} {h : q_H} (hd : d ≤ d') (hC : C ≤ C') (hS : S ≤ S') (hP : ∀ r n h, Post r n h → Post' r n h) (K : q_W G M d C S Post pc L st n h) : q_W G M d' C' S' Post' pc L st n h := by
  intro p l e R s m args below meth c H locs cells slots ls A ad ad0 n0 hF hSt hn hc hl hst hL
  have K1 := K p l e R s m args below meth c H locs cells slots ls A ad ad0 n0 (q_F_mono hd hF) hSt hn ⟨by omega, by omega⟩ hl hst hL
  intro T hT X
  obtain ⟨t, a1, o, b1, b2, b3⟩ := K1 T hT X
  refine ⟨t, a1, o, b1, b2, ?_⟩
  rcases b3 with ⟨⟨v, n1, h1, ad1, c1, c2, c3⟩, c4⟩ | ⟨q, e1, E, ce, LL, ⟨n1, h1, ad1, c2, c3⟩, c4⟩
  · exact Or.inl ⟨⟨v, n1, h1, ad1, c1, hP _ _ _ c2, c3⟩, c4⟩
  · exact Or.inr ⟨q, e1, E, ce, LL, ⟨n1, h1, ad1, hP _ _ _ c2, c3⟩, c4⟩
/-- cells that hold the same -/
theorem q_W_congr {G : q_G} {M : q_M} {d C S : Nat} {Post : q_R → Nat → q_H → Prop} {pc : Nat} {L : List (Option Value)} {st : List Value} {n : Nat} {h h' : q_H} (hh : ∀ k, k < n → h' k = h k) (K : q_W G M d C S Post pc L st n h) : q_W G M d C S Post pc L st n h' := by
  intro p l e R s m args below meth c H locs cells slots ls A ad ad0 n0 hF hSt hn hc hl hst hL
  have e1 : q_w G.2.1 ad n h' = q_w G.2.1 ad n h := by
    unfold q_w
    refine List.map_congr_left fun k hk => ?_
    rw [hh k (List.mem_range.mp hk)]
  unfold q_S at hSt
  rw [e1] at hSt
  obtain ⟨s1, s2, s3, s4, s5⟩ := hSt
  exact K p l e R s m args below meth c H locs cells slots ls A ad ad0 n0 hF ⟨s1, s2, s3, fun k hk => by rw [← hh k hk]; exact s4 k hk, s5⟩ hn hc hl hst hL
