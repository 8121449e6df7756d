/-! THE CLAIM OUT OF ONE WALK OF THE LAW'S BODY. Your part is whole_start (and what it stands on); all else here is the same for every law, but numbers. -/
def R_law : String := "SetupJobShopLaw"
def lw_P (b : Addr) (xs : List Int32) (args : Array Value) (s : State) : Prop := args = #[.ref b] ∧ s.IntsAt b xs ∧ xs.length ≤ 2560 ∧ (Jvm.Cond.and given_1 narrow_1).before args s = true
/-- what a walk over the start with the record d0 says of its end, said of the start itself -/
theorem lw_closed {s t : State} {o : Outcome} {d0 : Drawn} {L : List Loc} {k n : Nat} (hd0 : s.drawn.sameBut d0 lw_cs) (hv : ∃ v, o = .returned v) (hW : (s.setDrawn d0).WarmedH t.vm) (hs : (s.setDrawn d0).sameButNew ({ t with vm := s.vm } : State) L k n) : State.butDraws s t lw_cs (fun t1 => Framed s o t1 L k n) := by
  have h2 : t.drawn = d0 := congrArg State.drawn hs.1
  refine ⟨⟨hv, hW, State.sameButNew.setDrawn hs s.drawn⟩, ?_, by decide⟩
  rw [h2]
  exact hd0
def lw_Q (_ : Array Value) (s : State) (o : Outcome) (t : State) : Prop := o = .returned (some (.int 1)) ∧ State.butDraws s t lw_cs (fun t1 => Framed s o t1 [] 601024 7293033)
def lw_Z (below : List Frame) (a : Array Value) (s : State) : State → Prop := fun t => ∃ o, t.status = .running ∧ Ended t below o ∧ lw_Q a s o t
/-- the law's own end, with 1 on the stack, nothing written that was there before, its room as the claim has it; d0: the record of draws at this point (at the entry s.drawn: begin with 'refine W.base ?_' and 'have hd0 := Drawn.sameBut.refl s.drawn lw_cs') -/
theorem lw_ret {p : Program} {l : Launch} {e : Env} {s : State} {m : MethodId} {below : List Frame} {meth : Method} {c : Code} {b : Nat} {d0 : Drawn} (hd0 : s.drawn.sameBut d0 lw_cs) (hx : p.tables.exec = Jvm.exec) (hb : c.code = code) (hr : meth.sig.returnType = ret) (hlocks : meth.locks = false) {pc : Nat} {H : Heap} {ls : Array Slot} (hdg : decode code pc = .ok (.ireturn, 1)) : W p l e room_1 (s.setDrawn d0) m #[Value.ref b] below meth c H [] 601024 7293033 (lw_Z below #[Value.ref b] s) (F0 m pc ls [.int 1]) := by
  intro T hT X
  obtain ⟨fs, hret, hrun, hended, hW, hframe⟩ := X.leave (v := some (.int 1)) (hlocks := hlocks) (fun h => by rw [hr] at h; cases h)
  have hmeth' : T.vm.method? m = some meth := X.method'
  refine ⟨T.setFrames fs, ?_, .returned (some (.int 1)), hrun, hended, rfl, lw_closed hd0 ⟨_, rfl⟩ hW hframe⟩
  jvm_step X.here [X.here.top, hx, hb, hdg, hmeth', hr, ret, narrow_b1]
  (try refine ⟨rfl, ?_⟩); (try refine ⟨rfl, ?_⟩)
  first | (intro acts; rw [hret _ acts rfl rfl rfl]) | rw [hret _ _ rfl rfl rfl]
  exact Steps.refl _
/-- what holds at the law's entry: the machine, the code, the tables' words (any of lw_tbl by 'hts w (by decide +kernel)'), the script of L ints xs at the cell b, what the Statement gives of the start (any of its parts by flat_of_before) -/
def lw_At (p : Program) (s : State) (m : MethodId) (meth : Method) (c : Code) (b L : Nat) (xs : Nat → Int32) : Prop :=
  p.tables.exec = Jvm.exec ∧ c.code = code ∧ meth.sig.returnType = ret ∧ c.maxLocals = 9 ∧ s.vm.findClass R_law = some m.cls ∧ (∀ w ∈ lw_tbl, w.before #[Value.ref b] s = true) ∧ va_X b L xs s s.heap ∧ b < s.heap.size ∧ meth.locks = false ∧ (Jvm.Cond.and given_1 narrow_1).before #[Value.ref b] s = true
theorem k_len {args : Array Value} {s : State} {tm : Term} {v : Value} (h : (Term.length tm).eval args s none [] s = some v) : ∃ a cell, tm.eval args s none [] s = some (.ref a) ∧ s.arrayAt? a = some cell ∧ v = .int cell.slots.size.toInt32 ∧ cell.slots.size < 2147483648 := by
  obtain ⟨a, cell, h1, h2, h3⟩ := Term.length_spec h
  refine ⟨a, cell, h1, h2, h3, ?_⟩
  apply Classical.byContradiction
  intro hn
  simp only [Term.eval, h1, h2, Option.bind_eq_bind, Option.bind_some] at h
  rw [if_neg hn] at h
  cases h
theorem k_size {n : Nat} (h : n < 2147483648) (e : n.toInt32 = Int32.ofNat 3) : n = 3 := by
  have h1 : (Int32.ofNat n).toInt = (Int32.ofNat 3).toInt := congrArg Int32.toInt e
  rw [Int32.toInt_ofNat_of_lt (by omega), Int32.toInt_ofNat_of_lt (by omega)] at h1
  omega
theorem k_arr {args : Array Value} {s : State} {ty : FieldType} (h : (Cond.arrayClass ty).before args s = true) (hno : ∀ C, ty ≠ .object C) : ∃ c, ArrOfT s c ty ∧ va_RA s c ty := by
  obtain ⟨c, k, comp, h1, h2, h3⟩ := Cond.arrayClass_spec h
  refine ⟨c, fun n z => ⟨fun k9 h9 => (by cases h9), k, h2, comp, h3⟩, ?_⟩
  cases ty with
  | object C => exact absurd rfl (hno C)
  | _ => exact h1
theorem k_arrA {args : Array Value} {s : State} {ty : FieldType} (h : (Cond.arrayOver (.array ty)).before args s = true) : ∃ c, ArrOfT s c (.array ty) ∧ va_RA s c (.array ty) := by
  have h : (Cond.arrayOver (.array ty)).holds args s none s [] = true := h
  simp only [Cond.holds, Cond.value, beq_iff_eq] at h
  cases hc : s.vm.findClass (FieldType.array ty).toString with
  | none => simp [hc] at h
  | some comp =>
    simp only [hc, Option.bind_some, Option.bind_eq_some_iff, Option.map_eq_some_iff] at h
    obtain ⟨c, hi, k, hk, hb⟩ := h
    cases hkind : k.kind with
    | array component ty9 =>
      rw [hkind] at hb
      simp at hb
      refine ⟨c, fun n z => ⟨fun k9 h9 => (by cases h9), k, hk, component, ?_⟩, ?_⟩
      · rw [hkind, hb.1]
      · exact hb.2
    | _ => rw [hkind] at hb; simp at hb
theorem k_str {args : Array Value} {s : State} (hts : ∀ w ∈ lw_tbl, w.before args s = true) : ∀ z ∈ q_str, ∃ sa, vk_R z.1 z.2.1 z.2.2 sa s := by
  intro z hz
  obtain ⟨w, hw, he⟩ := List.mem_filterMap.mp hz
  have h1 := hts w hw
  cases w with
  | stringRef a9 b9 c9 =>
    cases he
    show ∃ sa, vk_R a9 b9 c9 sa s
    cases hc : s.vm.findClass a9 with
    | none => simp [Cond.before, Cond.holds, Cond.value, hc] at h1
    | some cur =>
      obtain ⟨k, cf, i, a, -, -, -, -, -, h2⟩ := Cond.stringRef_spec hc h1
      exact ⟨a, vk_R.of h1 h2⟩
  | _ => cases he
theorem k_nc : ∀ z ∈ q_nc, Cond.not (.castable z.1 z.2) ∈ flatC (Jvm.Cond.and given_1 narrow_1) := by decide +kernel
theorem k_forget {s t : State} {L : List Loc} {k n : Nat} (hL : ∀ q ∈ L, s.heap.size ≤ q.base) (h : s.sameButNew t L k n) : s.sameButNew t [] k n := by
  obtain ⟨h1, h2, h3, h4, h5, h6⟩ := h
  refine ⟨h1, h2, h3, h4, h5, fun a c hc => ?_⟩
  obtain ⟨c', g1, g2, g3, g4⟩ := h6 a c hc
  refine ⟨c', g1, g2, g3, fun i _ => g4 i (fun hm => ?_)⟩
  have h7 : s.heap.size ≤ a := hL _ hm
  exact absurd (Array.getElem?_eq_some_iff.mp hc).1 (Nat.not_lt.mpr h7)
set_option maxRecDepth 20000 in
set_option maxHeartbeats 4000000 in
theorem whole_start {p : Program} {e : Env} {s : State} {m : MethodId} {below : List Frame} {meth : Method} {c : Code} (l : Launch) (hflags : l.flags = flags0) {b L : Nat} {xs : Nat → Int32} (hL : L ≤ 2560) (C0 : lw_At p s m meth c b L xs) (hnm : meth.name = "law") (htb : c.exceptionTable.toList = []) : W p l e room_1 s m #[Value.ref b] below meth c s.heap [] 0 0 (lw_Z below #[Value.ref b] s) (entryFrame m ([Value.ref b] : List Value).toArray 9) := by
  obtain ⟨hx, hb, hr, hml, hown, hts, hX, hbl, hlocks, hgv⟩ := C0
  have hgs := flat_of_before _ hgv
  have hA0 : ∀ a : Nat, a < s.heap.size → ¬ (fun q : Nat => s.heap.size ≤ q) a := fun a h => Nat.not_le.mpr h
  have hq : ∀ w ∈ q_tw, w.before #[Value.ref b] s = true := fun w hw => hts w (List.mem_filter.mp hw).1
  obtain ⟨c0, i0, k0⟩ := u_known (C := RX0) (T := TX0) (N := 4) hq uwX0 (hq _ kwI_X0)
  obtain ⟨c1, i1, k1⟩ := u_known (C := RX1) (T := TX1) (N := 4) hq uwX1 (hq _ kwI_X1)
  obtain ⟨c2, i2, k2⟩ := u_known (C := RX2) (T := TX2) (N := 5) hq uwX2 (hq _ kwI_X2)
  obtain ⟨c3, i3, k3⟩ := u_known (C := RX3) (T := TX3) (N := 4) hq uwX3 (hq _ kwI_X3)
  obtain ⟨c4, i4, k4⟩ := u_known (C := RX4) (T := TX4) (N := 2) hq uwX4 (hq _ kwI_X4)
  obtain ⟨c5, i5, k5⟩ := u_known (C := RX5) (T := TX5) (N := 2) hq uwX5 (hq _ kwI_X5)
  obtain ⟨c6, i6, k6⟩ := u_known (C := RX6) (T := TX6) (N := 3) hq uwX6 (hq _ kwI_X6)
  obtain ⟨c7, i7, k7⟩ := u_known (C := RX7) (T := TX7) (N := 15) hq uwX7 (hq _ kwI_X7)
  obtain ⟨c8, i8, k8⟩ := u_known (C := RX8) (T := TX8) (N := 9) hq uwX8 (hq _ kwI_X8)
  obtain ⟨c9, i9, k9⟩ := u_known (C := RX9) (T := TX9) (N := 8) hq uwX9 (hq _ kwI_X9)
  obtain ⟨c10, i10, k10⟩ := u_known (C := RX10) (T := TX10) (N := 11) hq uwX10 (hq _ kwI_X10)
  obtain ⟨c11, i11, k11⟩ := u_known (C := RX11) (T := TX11) (N := 14) hq uwX11 (hq _ kwI_X11)
  obtain ⟨c12, i12, k12⟩ := u_known (C := RX12) (T := TX12) (N := 37) hq uwX12 (hq _ kwI_X12)
  obtain ⟨dC, dI, hKc⟩ : ∃ (dC : Nat → ClassId) (dI : Nat → Nat → Nat), ∀ (k : Nat) (q : vw_C), vwCl[k]? = some q → u_Kn s q.1 q.2.1 q.2.2 (dC k) (dI k) := by
    refine ⟨fun k => [c0, c1, c2, c3, c4, c5, c6, c7, c8, c9, c10, c11, c12].getD k c0, fun k => [i0, i1, i2, i3, i4, i5, i6, i7, i8, i9, i10, i11, i12].getD k i0, ?_⟩
    intro k q hq9
    match k, hq9 with
    | 0, hq9 => cases hq9; exact k0
    | 1, hq9 => cases hq9; exact k1
    | 2, hq9 => cases hq9; exact k2
    | 3, hq9 => cases hq9; exact k3
    | 4, hq9 => cases hq9; exact k4
    | 5, hq9 => cases hq9; exact k5
    | 6, hq9 => cases hq9; exact k6
    | 7, hq9 => cases hq9; exact k7
    | 8, hq9 => cases hq9; exact k8
    | 9, hq9 => cases hq9; exact k9
    | 10, hq9 => cases hq9; exact k10
    | 11, hq9 => cases hq9; exact k11
    | 12, hq9 => cases hq9; exact k12
    | k + 13, hq9 => cases hq9
  obtain ⟨t0, ha0⟩ := k_arr (hq _ kwA_int) (fun C q => by cases q)
  obtain ⟨t1, ha1⟩ := k_arr (hq _ kwA_boolean) (fun C q => by cases q)
  obtain ⟨t2, ha2⟩ := k_arr (hq _ kwA_char) (fun C q => by cases q)
  obtain ⟨t3, ha3⟩ := k_arr (hq _ kwA_long) (fun C q => by cases q)
  obtain ⟨t4, ha4⟩ := k_arr (hq _ kwA_double) (fun C q => by cases q)
  have hao := hts (Cond.arrayOver (.array .int)) (q_t1 (List.mem_of_getElem? (i := 38) (by decide +kernel)))
  obtain ⟨t5, ha5⟩ := k_arrA hao
  obtain ⟨tid, hT⟩ : ∃ tid : Nat → ClassId, ∀ (k : Nat) (q : ClassId × FieldType), (q_ty tid)[k]? = some q → ArrOfT s q.1 q.2 ∧ va_RA s q.1 q.2 := by
    refine ⟨fun k => [t0, t1, t2, t3, t4, t5].getD k t0, ?_⟩
    intro k q hq9
    match k, hq9 with
    | 0, hq9 => cases hq9; exact ha0
    | 1, hq9 => cases hq9; exact ha1
    | 2, hq9 => cases hq9; exact ha2
    | 3, hq9 => cases hq9; exact ha3
    | 4, hq9 => cases hq9; exact ha4
    | 5, hq9 => cases hq9; exact ha5
    | k + 6, hq9 => cases hq9
  have hK : va_K (dC, dI) vwCl (q_ty tid) s := ⟨hKc, hT⟩
  have hlen : (Term.length (.static "SetupJobShop" "JOB_LIMITS" "[I")).eval #[Value.ref b] s none [] s = some (.int (Int32.ofNat 3)) := va_eqt (hgs _ (by decide +kernel))
  have he0 : (Term.elem (.static "SetupJobShop" "JOB_LIMITS" "[I") (.int 0)).eval #[Value.ref b] s none [] s = some (.int 99) := va_eqt (hgs _ (by decide +kernel))
  have he1 : (Term.elem (.static "SetupJobShop" "JOB_LIMITS" "[I") (.int 1)).eval #[Value.ref b] s none [] s = some (.int 200) := va_eqt (hgs _ (by decide +kernel))
  have he2 : (Term.elem (.static "SetupJobShop" "JOB_LIMITS" "[I") (.int 2)).eval #[Value.ref b] s none [] s = some (.int 9) := va_eqt (hgs _ (by decide +kernel))
  obtain ⟨bl, hev, cell, g1, g2, g3, g4, g5, g6, g7⟩ := va_Tof (tm := .static "SetupJobShop" "JOB_LIMITS" "[I") (ty := .int) (N := 3) (f := fun j => .int (q_lim j)) (A := fun q : Nat => s.heap.size ≤ q) (by decide) (hgs _ (by decide +kernel)) hlen (fun j hj => by
    match j, hj with
    | 0, _ => exact he0
    | 1, _ => exact he1
    | 2, _ => exact he2) hA0
  obtain ⟨bl2, cell2, m1, m2, m3, m4⟩ := k_len hlen
  cases hev.symm.trans m1
  obtain ⟨m5, -, -, -⟩ := State.arrayAt?_spec m2
  cases g1.symm.trans m5
  have hsz : cell.slots.size = 3 := k_size m4 g5
  have hZ := va_Zref (hts (Cond.laysStatic "SetupJobShop" "JOB_LIMITS" "[I") (q_t3 (List.mem_of_getElem? (i := 146) (by decide +kernel)))) (hq _ kwN_X11) hev hA0
  have hu1 := vx_Zqof (A := fun q : Nat => s.heap.size ≤ q) (hts (Cond.laysStatic "java/lang/Throwable" "UNASSIGNED_STACK" "[Ljava/lang/StackTraceElement;") (q_t3 (List.mem_of_getElem? (i := 177) (by decide +kernel)))) (hts (Cond.initialized "java/lang/Throwable") (q_t1 (List.mem_of_getElem? (i := 14) (by decide +kernel)))) (hgs _ (by decide +kernel)) hA0
  have hu2 := vx_Zqof (A := fun q : Nat => s.heap.size ≤ q) (hts (Cond.laysStatic "java/lang/Throwable" "SUPPRESSED_SENTINEL" "Ljava/util/List;") (q_t3 (List.mem_of_getElem? (i := 179) (by decide +kernel)))) (hts (Cond.initialized "java/lang/Throwable") (q_t1 (List.mem_of_getElem? (i := 14) (by decide +kernel)))) (hgs _ (by decide +kernel)) hA0
  have hst : l.stackTraces = false := by unfold Launch.stackTraces; rw [hflags]; decide
  have hbl2 : bl < s.heap.size := (Array.getElem?_eq_some_iff.mp g1).1
  have hqX : q_X L xs b bl (fun q : Nat => s.heap.size ≤ q) s s.heap := ⟨⟨hX, hbl, hA0 _ hbl⟩, ⟨hZ, ⟨cell, g1, g2, g3, hsz, g6⟩, hbl2, hA0 _ hbl2⟩, ⟨hu1, hu2⟩, fun w hw => va_Nw.of (q_ew_ot hw) (hts w (List.mem_filter.mp hw).1), hao, k_str hts, fun z hz => va_Nc.of (hgs _ (k_nc z hz))⟩
  obtain ⟨ad, had1, had2⟩ : ∃ ad : Nat → Nat, ad 1000000 = b ∧ ad 1000001 = bl := ⟨fun k => if k = 1000000 then b else bl, by simp, by simp⟩
  subst had1
  subst had2
  have hl := lv_entry ([.ref (ad 1000000)]) (n := 9) (Nat.le_of_ble_eq_true rfl)
  rw [lg_entry_eq]
  generalize (lg_sl ([.ref (ad 1000000)]) ++ List.replicate (9 - (lg_sl ([.ref (ad 1000000)])).length) Slot.unset).toArray = ls at hl ⊢
  obtain ⟨l1, l2, l3⟩ := hl
  intro T hT9 X9
  have K := lw_begin (G := ((dC, dI), tid, L, xs)) (h := fun _ => .inr (99, [])) hL p l e room_1 s m #[Value.ref (ad 1000000)] below meth c s.heap [] 0 0 ls (fun q : Nat => s.heap.size ≤ q) ad ad 0
    ⟨hx, hb, hml, hr, hlocks, hnm, htb, hown, hq, hK, hst, ⟨Nat.le_of_ble_eq_true rfl, Nat.le_of_ble_eq_true rfl⟩, fun q hq9 => hq9, hqX⟩
    ⟨fun k q h9 => (by cases h9), ⟨fun i j p9 q9 h9 => (by cases h9), fun k q h9 => (by cases h9)⟩, va_S.rf, fun k hk => absurd hk (Nat.not_lt_zero k), Nat.zero_le _⟩
    ⟨Nat.zero_le _, fun _ _ => rfl⟩ ⟨Nat.le_of_ble_eq_true rfl, Nat.le_of_ble_eq_true rfl⟩
    ⟨l1, l2, fun i v hi => (by
      have h1 := q_sl_args (ad := ad) [.ref 1000000] 0 i v (q_ent_at hi)
      rw [Nat.zero_add] at h1
      exact l3 _ h1)⟩ (fun v hv => (by cases hv)) (fun i v hi => (by
      have h1 := q_sl_mem _ _ _ (q_ent_at hi)
      rw [List.mem_singleton] at h1
      subst h1
      exact q_ov_r (Or.inr (Nat.le_refl _))))
  obtain ⟨t, a1, o, b1, b2, b3⟩ := K T hT9 X9
  refine ⟨t, a1, o, b1, b2, ?_⟩
  rcases b3 with ⟨⟨v, n1, h1, ad1, c1, c2, c3⟩, LL, hFE, hfr⟩ | ⟨q, e1, E, ce, LL, ⟨n1, h1, ad1, c2, c3⟩, c4⟩
  · obtain ⟨-, s9, -, hv⟩ := c2
    cases hv
    subst c1
    obtain ⟨f1, f2, f3⟩ := hFE
    exact ⟨rfl, lw_closed (d0 := s.drawn) (Drawn.sameBut.refl _ _) f1 f2 (k_forget hfr f3)⟩
  · obtain ⟨-, s9, -, hv⟩ := c2
    cases hv
set_option maxHeartbeats 4000000 in
theorem lw_walk (l : Launch) (hflags : l.flags = flags0) (b : Addr) (xs : List Int32) : MetFree l x (headSpec (Jvm.Cond.code x code maxLocals ret :: tables_1) room_1) (lw_P b xs) (fun _ _ _ _ _ => True) lw_Q := by
  refine MetFree.of_bodyS (code := code) (maxLocals := maxLocals) (ret := ret) (by decide) ?_ ?_
  · intro args s m h hn
    obtain ⟨meth, c, h1, h2, h3, h4, h5, h6, -, -⟩ := Cond.code_spec hn (atoms_spec (ws := Jvm.Cond.code x code maxLocals ret :: tables_1) h _ List.mem_cons_self)
    exact ⟨meth, c, h1, h2, h3, h4, h5, h6⟩
  · intro p e s m args below meth c s₁ B hml0 hP _
    obtain ⟨rfl, hx, hbd, hgv⟩ := hP
    obtain ⟨scr, harrAt, hlist, hof, hsmall⟩ := hx
    obtain ⟨hcb, hkn, -, -⟩ := State.arrayAt?_spec harrAt
    have hown : s.vm.findClass R_law = some m.cls := findClass_of_methodNamed B.named
    have hts0 : ∀ c ∈ (Jvm.Cond.code x code maxLocals ret :: tables_1), c.before #[Value.ref b] s = true := atoms_spec (ws := Jvm.Cond.code x code maxLocals ret :: tables_1) B.pre
    have hts : ∀ w ∈ lw_tbl, w.before #[Value.ref b] s = true := k2_hts_sels lw_privs (fun w hw => hts0 w (List.mem_cons_of_mem _ hw)) lw_privs_ok
    have hml : c.maxLocals = 9 := B.maxLocals_eq (hts0 _ List.mem_cons_self)
    have X₀ : Stand p l e room_1 s m #[Value.ref b] below meth c s₁ [] 0 0 := Stand.of_body B
    have hh0 : s₁.heap = s.heap := by rw [B.state]; rfl
    have hsz : scr.slots.size = xs.length := by rw [← Array.length_toList, hlist, List.length_map]
    have hval : ∀ j : Nat, j < xs.length → scr.slots[j]? = some (.int (xs.getD j 0)) := fun j hj => by
      rw [← Array.getElem?_toList, hlist]
      simp [hj]
    have hbl : b < s.heap.size := (Array.getElem?_eq_some_iff.mp hcb).1
    have hX : va_X b xs.length (fun j => xs.getD j 0) s s.heap := ⟨scr, hcb, hof, hkn, hsz, hval⟩
    have htb : c.exceptionTable.toList = [] := by
      obtain ⟨meth9, c9, h1, h2, -, -, -, -, h7, -⟩ := Cond.code_spec B.named (hts0 _ List.mem_cons_self)
      cases Option.some.inj (h1.symm.trans B.method)
      cases Option.some.inj (h2.symm.trans X₀.code)
      rw [Array.isEmpty_iff.mp h7]
    have hnm : meth.name = "law" := (name_of_methodNamed B.named B.method).1
    have K : W p l e room_1 s m #[Value.ref b] below meth c s₁.heap [] 0 0 (lw_Z below #[Value.ref b] s) (entryFrame m ([Value.ref b] : List Value).toArray 9) := by
      rw [hh0]
      exact whole_start l hflags hbd ⟨B.exec, B.bytes, B.returns, hml, hown, hts, hX, hbl, B.notSynchronized, hgv⟩ hnm htb
    obtain ⟨t, a1, o, b1, b2, b3⟩ := K s₁ rfl X₀
    exact ⟨t, o, a1, b1, b2, b3⟩
theorem lw_pre_spec {args : Array Value} {s : State} (h : (Jvm.Cond.and given_1 narrow_1).before args s = true) (hr : rest_1_c.before args s = true) : ∃ (b : Addr) (xs : List Int32), lw_P b xs args s := by
  have hs := flat_of_before _ h
  have hq := flat_of_before _ hr
  have hc : (Cond.count 1).before args s = true := hs _ (by decide +kernel)
  have harr : (Cond.arrayOf (.arg 0) .int).before args s = true := hs _ (by decide +kernel)
  have hle : (Cond.le (.length (.arg 0)) (.int 2560)).before args s = true := hs _ (by decide +kernel)
  have hlen : (Cond.isInt (.length (.arg 0))).before args s = true := hq _ (by decide +kernel)
  have hall : (Cond.all (.arg 0) (.isInt (.elem (.arg 0) (.index 0)))).before args s = true := hq _ (by decide +kernel)
  obtain ⟨b, xs, hb, hx⟩ := State.ints_of_pre rfl harr hlen hall
  have hsm : xs.length < 2 ^ 31 := hx.choose_spec.2.2.2
  have hev : (Term.length (.arg 0)).eval args s none [] s = some (.int xs.length.toInt32) := hx.length_eval hb
  have hv := Cond.le_ints hev (show (Term.int 2560).eval args s none [] s = some (.int 2560) from rfl)
  have hd : xs.length.toInt32 ≤ 2560 := by
    simpa [Cond.before, Cond.holds, hv] using hle
  have hN : xs.length ≤ 2560 := (Int32.ofNat_le_ofNat hsm (by decide)).mp (show Int32.ofNat xs.length ≤ Int32.ofNat 2560 from hd)
  exact ⟨b, xs, Cond.one_arg hc (show args[0]? = some (.ref b) from hb), hx, hN, h⟩
theorem lw_comes (l : Launch) (hflags : l.flags = flags0) : Comes l x (Jvm.Cond.code x code maxLocals ret :: tables_1) room_1 (fun tb e args s => Calls_1 tb e args s ∧ rest_1 tb e args s ∧ Pre_1 tb e args s)
    (fun _ _ args s o t => lw_Q args s o t) := by
  intro p e ha hc hk s m args below hf hfit hheap happ hpre
  obtain ⟨b, xs, hP⟩ := lw_pre_spec hpre.2.2 hpre.2.1
  obtain ⟨k, o, h1, h2, h3, hQ⟩ := lw_walk l hflags b xs p e ha hc hk s m args below hf ((Spec.applies_iff_loose hf).mp happ).1 hP trivial
  exact ⟨k, o, h1, h2, h3, hQ⟩
theorem lw_frame {s t : State} {o : Outcome} {args : Array Value} (h : State.butDraws s t lw_cs (fun t1 => Framed s o t1 [] 601024 7293033)) :
    State.butDraws s t [Jvm.Choice.named "NaN.bits"] (fun t1 => Framed s o t1 (fieldLocs frame_1_writes args s ++ arrayLocs frame_1_arrays args s ++ staticLocs frame_1_statics s) 601024 7293033) := h
theorem lw_limb (L : Cond) (hL : ∀ (args : Array Value) (s t : State), L.after args s (.returned (some (.int 1))) t = true) :
    ArmFor flags0 classFile x code maxLocals ret World_1 tables_1 room_1 Calls_1 rest_1 Pre_1
      (fun tb e a s o t => postC L tb e a s o t ∧ State.butDraws s t [Jvm.Choice.named "NaN.bits"] (fun t1 => Framed s o t1 (fieldLocs frame_1_writes a s ++ arrayLocs frame_1_arrays a s ++ staticLocs frame_1_statics s) 601024 7293033)) := by
  intro l hflags _ _ p e ha hc hk s m args below hf hfit hheap happ hpre
  obtain ⟨k, o, h1, h2, h3, rfl, hF⟩ := lw_comes l hflags p e ha hc hk s m args below hf hfit hheap happ hpre
  exact ⟨k, _, h1, h2, h3, hL args s _, lw_frame hF⟩
theorem i_vc : Claimed_1_1 ∧ Claimed_1_2 := ⟨lw_limb limb_1_1 (fun args s t => by simp [limb_1_1, Cond.after, Cond.holds, Cond.value]), lw_limb limb_1_2 (fun args s t => Cond.after_iff.mpr (by
  first | (rw [show limb_1_2 = Cond.eq .result (.int 1) from rfl, Cond.eq_ints (x := 1) (y := 1) rfl rfl]; simp; done) | (simp [limb_1_2, Cond.value, Term.eval]; done)))⟩
