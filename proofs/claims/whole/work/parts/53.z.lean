/-! ===== the ints of the calls ===== -/
def iIn (x : Int32) (a b : Nat) : Bool := decide ((a : Int) ≤ x.toInt ∧ x.toInt ≤ (b : Int))
def iLt (x : Int32) (b : Nat) : Bool := decide (0 ≤ x.toInt ∧ x.toInt < (b : Int))
def iN (x : Int32) : Nat := x.toInt.toNat
theorem iN_n {n : Nat} (h : n < 2 ^ 31) : iN (nI n) = n := by unfold iN; rw [nI_toInt h]; exact Int.toNat_natCast n
theorem nI_iN {x : Int32} (h : 0 ≤ x.toInt) : nI (iN x) = x := by
  apply Int32.toInt_inj.mp
  have h1 := Int32.toInt_lt x
  unfold iN
  rw [nI_toInt (by omega)]
  omega
theorem iIn_n {x : Int32} {a b : Nat} (h : iIn x a b = true) : ∃ n, x = nI n ∧ a ≤ n ∧ n ≤ b ∧ n < 2 ^ 31 := by
  have h := of_decide_eq_true h
  have h1 := Int32.toInt_lt x
  refine ⟨iN x, (nI_iN (by omega)).symm, ?_, ?_, ?_⟩ <;> unfold iN <;> omega
theorem iLt_n {x : Int32} {b : Nat} (h : iLt x b = true) : ∃ n, x = nI n ∧ n < b ∧ n < 2 ^ 31 := by
  have h := of_decide_eq_true h
  have h1 := Int32.toInt_lt x
  refine ⟨iN x, (nI_iN (by omega)).symm, ?_, ?_⟩ <;> unfold iN <;> omega
theorem iIn_nI {n a b : Nat} (h : n < 2 ^ 31) : iIn (nI n) a b = decide (a ≤ n ∧ n ≤ b) := by
  unfold iIn
  rw [nI_toInt h]
  exact decide_eq_decide.mpr (by omega)
theorem iLt_nI {n b : Nat} (h : n < 2 ^ 31) : iLt (nI n) b = decide (n < b) := by
  unfold iLt
  rw [nI_toInt h]
  exact decide_eq_decide.mpr (by omega)
theorem iIn_iLt {x : Int32} {b : Nat} : iIn x 0 b = iLt x (b + 1) := decide_eq_decide.mpr (by omega)
theorem nI_sub {a b : Nat} (ha : a < 2 ^ 31) (hb : b < 2 ^ 31) : (nI a - nI b).toInt = (a : Int) - b := by
  rw [Int32.toInt_sub, nI_toInt ha, nI_toInt hb]
  exact Int.bmod_eq_of_le (by omega) (by omega)
theorem kL_88 : Cond.constantLong RX12 88 (nI 99).toInt64 ∈ q_tw := by
  rw [show (nI 99).toInt64 = (99 : Int64) by decide]
  exact (q_in (q_t6 (List.mem_of_getElem? (i := 140) (by decide +kernel))) (by decide +kernel))
theorem kL_90 : Cond.constantLong RX12 90 (nI 200).toInt64 ∈ q_tw := by
  rw [show (nI 200).toInt64 = (200 : Int64) by decide]
  exact (q_in (q_t6 (List.mem_of_getElem? (i := 144) (by decide +kernel))) (by decide +kernel))
theorem kL_92 : Cond.constantLong RX12 92 (nI 9).toInt64 ∈ q_tw := by
  rw [show (nI 9).toInt64 = (9 : Int64) by decide]
  exact (q_in (q_t6 (List.mem_of_getElem? (i := 145) (by decide +kernel))) (by decide +kernel))
theorem kL_86 : Cond.constantLong RX12 86 (nI 3).toInt64 ∈ q_tw := by
  rw [show (nI 3).toInt64 = (3 : Int64) by decide]
  exact (q_in (q_t6 (List.mem_of_getElem? (i := 161) (by decide +kernel))) (by decide +kernel))
theorem kL_106 : Cond.constantLong RX12 106 (nI 30).toInt64 ∈ q_tw := by
  rw [show (nI 30).toInt64 = (30 : Int64) by decide]
  exact (q_in (q_t6 (List.mem_of_getElem? (i := 165) (by decide +kernel))) (by decide +kernel))
theorem kL_108 : Cond.constantLong RX12 108 (nI 2).toInt64 ∈ q_tw := by
  rw [show (nI 2).toInt64 = (2 : Int64) by decide]
  exact (q_in (q_t6 (List.mem_of_getElem? (i := 166) (by decide +kernel))) (by decide +kernel))
theorem kL_138 : Cond.constantLong RX12 138 (nI 400).toInt64 ∈ q_tw := by
  rw [show (nI 400).toInt64 = (400 : Int64) by decide]
  exact (q_in (q_t6 (List.mem_of_getElem? (i := 203) (by decide +kernel))) (by decide +kernel))
theorem kL_140 : Cond.constantLong RX12 140 (nI 60).toInt64 ∈ q_tw := by
  rw [show (nI 60).toInt64 = (60 : Int64) by decide]
  exact (q_in (q_t6 (List.mem_of_getElem? (i := 204) (by decide +kernel))) (by decide +kernel))
theorem kL_145 : Cond.constantLong RX12 145 (nI 5).toInt64 ∈ q_tw := by
  rw [show (nI 5).toInt64 = (5 : Int64) by decide]
  exact (q_in (q_t6 (List.mem_of_getElem? (i := 217) (by decide +kernel))) (by decide +kernel))
theorem kL_194 : Cond.constantLong RX12 194 (nI 4).toInt64 ∈ q_tw := by
  rw [show (nI 4).toInt64 = (4 : Int64) by decide]
  exact (q_in (q_t7 (List.mem_of_getElem? (i := 55) (by decide +kernel))) (by decide +kernel))
theorem kL_244 : Cond.constantLong RX12 244 (nI 999).toInt64 ∈ q_tw := by
  rw [show (nI 999).toInt64 = (999 : Int64) by decide]
  exact (q_in (q_t7 (List.mem_of_getElem? (i := 148) (by decide +kernel))) (by decide +kernel))
theorem kL_262 : Cond.constantLong RX12 262 (nI 20).toInt64 ∈ q_tw := by
  rw [show (nI 20).toInt64 = (20 : Int64) by decide]
  exact (q_in (q_t7 (List.mem_of_getElem? (i := 181) (by decide +kernel))) (by decide +kernel))
theorem kL_285 : Cond.constantLong RX12 285 (nI 48).toInt64 ∈ q_tw := by
  rw [show (nI 48).toInt64 = (48 : Int64) by decide]
  exact (q_in (q_t7 (List.mem_of_getElem? (i := 223) (by decide +kernel))) (by decide +kernel))
theorem kL_287 : Cond.constantLong RX12 287 (nI 57).toInt64 ∈ q_tw := by
  rw [show (nI 57).toInt64 = (57 : Int64) by decide]
  exact (q_in (q_t7 (List.mem_of_getElem? (i := 224) (by decide +kernel))) (by decide +kernel))
theorem kG_141 : Cond.fieldLink RX11 141 RX11 "JOB_LIMITS" "[I" ∈ q_tw := (q_in (q_t3 (List.mem_of_getElem? (i := 145) (by decide +kernel))) (by decide +kernel))
/-- the reference's question, over ints -/
theorem c_inI {G : q_G} {s : s_T} {x a b : Int32} : s_W G mX12_in 2 0 0 (c_I (fun y9 s1 => s1 = s ∧ y9 = bI (decide (a.toInt ≤ x.toInt ∧ x.toInt ≤ b.toInt)))) 0 (q_ent mX12_in [.long x.toInt64, .long a.toInt64, .long b.toInt64]) [] s := by
  have h := c_in (G := G) (s := s) (a := x.toInt64) (b := a.toInt64) (c := b.toInt64)
  have e : decide (a.toInt64 ≤ x.toInt64 ∧ x.toInt64 ≤ b.toInt64) = decide (a.toInt ≤ x.toInt ∧ x.toInt ≤ b.toInt) := decide_eq_decide.mpr (by rw [i64_le, i64_le, Int32.le_iff_toInt_le, Int32.le_iff_toInt_le])
  rw [← e]
  exact h
theorem c_in2 {G : q_G} {s : s_T} {x : Int32} {a b : Nat} (ha : a < 2 ^ 31) (hb : b < 2 ^ 31) : s_W G mX12_in 2 0 0 (c_I (fun y9 s1 => s1 = s ∧ y9 = bI (iIn x a b))) 0 (q_ent mX12_in [.long x.toInt64, .long (nI a).toInt64, .long (nI b).toInt64]) [] s := by
  have h := c_inI (G := G) (s := s) (x := x) (a := nI a) (b := nI b)
  rw [nI_toInt ha, nI_toInt hb] at h
  exact h
theorem c_in3 {G : q_G} {s : s_T} {x : Int32} {b : Nat} (hb : b < 2 ^ 31) : s_W G mX12_in 2 0 0 (c_I (fun y9 s1 => s1 = s ∧ y9 = bI (iLt x b))) 0 (q_ent mX12_in [.long x.toInt64, .long (nI 0).toInt64, .long (nI b - nI 1).toInt64]) [] s := by
  have h := c_inI (G := G) (s := s) (x := x) (a := nI 0) (b := nI b - nI 1)
  rw [nI_sub hb (by decide), nI_toInt (by decide)] at h
  have e : decide (((0 : Nat) : Int) ≤ x.toInt ∧ x.toInt ≤ (b : Int) - ((1 : Nat) : Int)) = iLt x b := decide_eq_decide.mpr (by omega)
  rw [e] at h
  exact h
/-! ===== the state of the whole: z 0 the shop, z 1 the snapshot, z 2 numbers (saved, length of the text, number of codes of the failure, closed, tabu steps), z 3 the text, z 4 the codes, z 5 the sequence of the machines ===== -/
abbrev z_T : Type := Nat → Nat → Nat
def z_wf (z : z_T) : Prop := (x_wf (z 0) ∧ x_ac (z 0) (fun _ => false)) ∧ (z 2 0 = 1 → x_wf (z 1) ∧ x_ac (z 1) (fun _ => false)) ∧ z 2 0 ≤ 1 ∧ (z 2 1 ≤ 80 ∧ ∀ k, k < z 2 1 → z 3 k < 65536) ∧ (z 2 2 ≤ 4 ∧ ∀ k, k < z 2 2 → z 4 k < 1000000) ∧ (z 2 3 ≤ 1 ∧ (z 2 3 = 1 → ∀ k, k < 4 → z 5 k < 4)) ∧ z 2 4 ≤ 20
/-- the reference, but its shop -/
def m_O (z : z_T) (s : s_T) : Prop :=
  (z 2 0 = 1 → ∀ k, k < 203 → s 214 k = nI (z 1 k)) ∧ s 212 2 = nI (z 2 0) ∧ s 212 5 = nI (z 2 1) ∧ (∀ k, k < z 2 1 → s 215 k = nI (z 3 k)) ∧ s 212 7 = nI (z 2 2) ∧ (∀ k, k < z 2 2 → s 216 k = nI (z 4 k)) ∧ s 212 9 = nI (z 2 3) ∧ (z 2 3 = 1 → ∀ k, k < 4 → s 217 k = nI (z 5 k)) ∧ s 212 10 = nI (z 2 4) ∧ m_op (fun _ => false) s ∧ (∃ hu, hu ≤ 50000 ∧ m_H none hu s) ∧ (∀ k, k < 20 → s 225 k = bI false)
def m_Z (z : z_T) (s : s_T) : Prop := m_R (z 0) s ∧ m_O z s
/-- what the reference's lasting rest reads is as it was -/
def m_eq (s s1 : s_T) : Prop := (∀ k, (214 ≤ k ∧ k < 218) ∨ k = 220 ∨ k = 225 → s1 k = s k) ∧ (∀ j, j = 2 ∨ j = 5 ∨ j = 7 ∨ j = 9 ∨ j = 10 ∨ j = 14 ∨ j = 15 → s1 212 j = s 212 j)
theorem m_eq_rf {s : s_T} : m_eq s s := ⟨fun _ _ => rfl, fun _ _ => rfl⟩
theorem m_eq_tr {s s1 s2 : s_T} (h1 : m_eq s s1) (h2 : m_eq s1 s2) : m_eq s s2 := ⟨fun k hk => (h2.1 k hk).trans (h1.1 k hk), fun j hj => (h2.2 j hj).trans (h1.2 j hj)⟩
theorem m_eq_fr {lo hi : Nat} {s s1 : s_T} (h : s_fr lo hi s s1) (hb : (213 ≤ lo ∧ hi ≤ 214) ∨ (218 ≤ lo ∧ hi ≤ 220) ∨ (221 ≤ lo ∧ hi ≤ 225) ∨ 226 ≤ lo) : m_eq s s1 := ⟨fun k hk => h k (by omega), fun j _ => by rw [h 212 (by omega)]⟩
theorem m_eq_put {s s1 : s_T} {j : Nat} {v : Int32} (h : s1 212 = upd (s 212) j v) (hf : s_fr 212 (212 + 1) s s1) (hj : j ≠ 2 ∧ j ≠ 5 ∧ j ≠ 7 ∧ j ≠ 9 ∧ j ≠ 10 ∧ j ≠ 14 ∧ j ≠ 15) : m_eq s s1 := ⟨fun k hk => hf k (by omega), fun q hq => by rw [h, pk_un (by omega)]⟩
theorem m_O_eq {z : z_T} {s s1 : s_T} (h : m_O z s) (e : m_eq s s1) : m_O z s1 := by
  obtain ⟨a1, a2, a3, a4, a5, a6, a7, a8, a9, a10, a11, a12⟩ := h
  obtain ⟨e1, e2⟩ := e
  unfold m_O m_op m_H
  rw [e1 214 (by omega), e1 215 (by omega), e1 216 (by omega), e1 217 (by omega), e1 220 (by omega), e1 225 (by omega), e2 2 (by omega), e2 5 (by omega), e2 7 (by omega), e2 9 (by omega), e2 10 (by omega), e2 14 (by omega), e2 15 (by omega)]
  exact ⟨a1, a2, a3, a4, a5, a6, a7, a8, a9, a10, a11, a12⟩
theorem m_O_X {z : z_T} {s : s_T} {X : x_T} (h : m_O z s) : m_O (va_up z 0 X) s := h
/-- a call of the reference -/
def m_P (a : Nat × Int32 × z_T) (s : s_T) : q_R → s_T → Prop := c_I (fun y9 s1 => (a.1 = 0 → y9 = a.2.1) ∧ s1 212 3 = nI a.1 ∧ m_Z a.2.2 s1 ∧ s_fr 212 234 s s1)
theorem m_P_i {a b : Nat × Int32 × z_T} {s s1 : s_T} {y : Int32} (e : a = b) (h1 : b.1 = 0 → y = b.2.1) (h2 : s1 212 3 = nI b.1) (h3 : m_R (b.2.2 0) s1) (h4 : m_O b.2.2 s1) (h5 : s_fr 212 234 s s1) : m_P a s (.inl (some (.int y))) s1 := by
  subst e
  exact ⟨_, rfl, h1, h2, ⟨h3, h4⟩, h5⟩
/-- the class's object -/
def c_Q (s : s_T) : Prop := ∀ h, h = 124 ∨ h = 132 ∨ h = 162 → (∀ m, m < 4 → s (h + 5) m = bI false) ∧ s h 9 = -1 ∧ ∃ hu, hu ≤ 50000 ∧ s h 10 = nI hu
def c_Z (z : z_T) (s : s_T) : Prop :=
  c_R (z 0) s 1 ∧ (z 2 0 = 1 → c_R (z 1) s 42) ∧ s 0 13 = nI (z 2 0) ∧ c_Q s ∧ (s 152 9 = -1 ∧ ∃ hu, hu ≤ 50000 ∧ s 152 10 = nI hu) ∧ s 206 0 = nI (z 2 1) ∧ (∀ k, k < z 2 1 → s 207 k = nI (z 3 k)) ∧ s 210 0 = nI (z 2 2) ∧ (∀ k, k < z 2 2 → s 211 k = nI (z 4 k)) ∧ s 150 0 = nI (4 * z 2 3) ∧ (z 2 3 = 1 → ∀ k, k < 4 → s 151 k = nI (z 5 k)) ∧ s 161 0 = nI (z 2 4)
/-- a call of the class: what it answers or throws -/
def c_P (es : List String) (a : Nat × Int32 × z_T) (s : s_T) : q_R → s_T → Prop := fun r s1 => (a.1 = 0 → r = .inl (some (.int a.2.1))) ∧ (a.1 ≠ 0 → ∃ E, es[a.1 - 1]? = some E ∧ r = .inr E) ∧ c_Z a.2.2 s1 ∧ s_fr 0 212 s s1
theorem c_P_i {es : List String} {a b : Nat × Int32 × z_T} {s s1 : s_T} {y : Int32} (e : a = b) (h0 : b.1 = 0) (h1 : y = b.2.1) (h3 : c_Z b.2.2 s1) (h5 : s_fr 0 212 s s1) : c_P es a s (.inl (some (.int y))) s1 := by
  subst e
  exact ⟨fun _ => by rw [h1], fun q => absurd h0 q, h3, h5⟩
theorem c_P_x {es : List String} {a b : Nat × Int32 × z_T} {s s1 : s_T} {E : String} (e : a = b) (h0 : b.1 ≠ 0) (h1 : es[b.1 - 1]? = some E) (h3 : c_Z b.2.2 s1) (h5 : s_fr 0 212 s s1) : c_P es a s (.inr E) s1 := by
  subst e
  exact ⟨fun q => absurd q h0, fun _ => ⟨E, h1, rfl⟩, h3, h5⟩
