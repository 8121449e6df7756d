/-! ===== the law: each call, on both sides ===== -/
theorem q_W_L {G : q_G} {M : q_M} {d C S : Nat} {Post : q_R → Nat → q_H → Prop} {pc : Nat} {L L' : List (Option Value)} {st : List Value} {n : Nat} {h : q_H} (hh : ∀ (i : Nat) (v : Value), L[i]? = some (some v) → L'[i]? = some (some v)) (K : q_W G M d C S Post pc L st n h) : q_W G M d C S Post pc L' st n h := by
  intro p l e R s m args below meth c H locs cells slots ls A ad ad0 n0 hF hSt hn hc hl hst hL
  exact K p l e R s m args below meth c H locs cells slots ls A ad ad0 n0 hF hSt hn hc ⟨hl.1, hl.2.1, fun i v hi => hl.2.2 i v (hh i v hi)⟩ hst (fun i v hi => hL i v (hh i v hi))
section SRa
variable {G : q_G} {M : q_M} {d C S : Nat} {P : q_R → s_T → Prop} {pc : Nat} {L : List (Option Value)} {st stk : List Value} {s : s_T}
theorem s_SI (M' : q_M) {d' C' S' : Nat} {Q : Int32 → s_T → Prop} (As : List Value) {idx : Nat} (dc : decode M.2.2.1 pc = .ok (.invokestatic idx, 3)) (hMo : q_Mok M') (hlk : q_lS M.1 idx M') (hnp : q_np M' As.length) (hd : d' + 1 ≤ d) (hC : C' ≤ C) (hS2 : S' ≤ S) (hr : (st.map fun v => v.category).sum ≤ 8) (hA : (q_sl As).length ≤ M'.2.2.2.1) (hstk : stk = As.reverse ++ st) (K1 : s_W G M' d' C' S' (c_I Q) 0 (q_ent M' As) [] s) (K2 : ∀ (x : Int32) (s' : s_T), Q x s' → s_W G M d (C - C') (S - S') P (pc + 3) L (.int x :: st) s') : s_W G M d C S P pc L stk s :=
  s_callS M' As dc hMo hlk hnp hd hC hS2 hr hA hstk K1 (fun v s' hp => by obtain ⟨x, e, hp⟩ := hp; cases e; exact K2 x s' hp) (fun E s' hp => by obtain ⟨x, e, -⟩ := hp; cases e)
theorem s_VI (M' : q_M) {d' C' S' : Nat} {Q : Int32 → s_T → Prop} (As : List Value) {k ci idx N : Nat} {T : u_T} {fr : List (Option Nat)} (dc : decode M.2.2.1 pc = .ok (.invokevirtual idx, 3)) (hMo : q_Mok M') (hlk : q_lV M.1 idx M') (hnp : q_np M' As.length) (hl : q_lay k = .inr (ci, fr)) (hci : vwCl[ci]? = some (M'.1, T, N)) (hd : d' + 1 ≤ d) (hC : C' ≤ C) (hS2 : S' ≤ S) (hr : (st.map fun v => v.category).sum ≤ 8) (hA : (q_sl (.ref k :: As)).length ≤ M'.2.2.2.1) (hstk : stk = As.reverse ++ .ref k :: st) (K1 : s_W G M' d' C' S' (c_I Q) 0 (q_ent M' (.ref k :: As)) [] s) (K2 : ∀ (x : Int32) (s' : s_T), Q x s' → s_W G M d (C - C') (S - S') P (pc + 3) L (.int x :: st) s') : s_W G M d C S P pc L stk s :=
  s_callV M' As dc hMo hlk hnp hl hci hd hC hS2 hr hA hstk K1 (fun v s' hp => by obtain ⟨x, e, hp⟩ := hp; cases e; exact K2 x s' hp) (fun E s' hp => by obtain ⟨x, e, -⟩ := hp; cases e)
theorem s_VV (M' : q_M) {d' C' S' : Nat} {Q : s_T → Prop} (As : List Value) {k ci idx N : Nat} {T : u_T} {fr : List (Option Nat)} (dc : decode M.2.2.1 pc = .ok (.invokevirtual idx, 3)) (hMo : q_Mok M') (hlk : q_lV M.1 idx M') (hnp : q_np M' As.length) (hl : q_lay k = .inr (ci, fr)) (hci : vwCl[ci]? = some (M'.1, T, N)) (hd : d' + 1 ≤ d) (hC : C' ≤ C) (hS2 : S' ≤ S) (hr : (st.map fun v => v.category).sum ≤ 8) (hA : (q_sl (.ref k :: As)).length ≤ M'.2.2.2.1) (hstk : stk = As.reverse ++ .ref k :: st) (K1 : s_W G M' d' C' S' (c_V Q) 0 (q_ent M' (.ref k :: As)) [] s) (K2 : ∀ (s' : s_T), Q s' → s_W G M d (C - C') (S - S') P (pc + 3) L st s') : s_W G M d C S P pc L stk s :=
  s_callV M' As dc hMo hlk hnp hl hci hd hC hS2 hr hA hstk K1 (fun v s' hp => by obtain ⟨e, hp⟩ := hp; cases e; exact K2 s' hp) (fun E s' hp => by obtain ⟨e, -⟩ := hp; cases e)
/-- a call of the class that throws nothing -/
theorem c_P0 {a : a_T} (h0 : a.1 = 0) {s : s_T} (h : s_W G M d C S (c_P [] a s) pc L st s) : s_W G M d C S (c_I (fun y9 s1 => y9 = a.2.1 ∧ c_Z a.2.2 s1 ∧ s_fr 0 212 s s1)) pc L st s :=
  s_mono (Nat.le_refl _) (Nat.le_refl _) (Nat.le_refl _) (fun r s1 q => ⟨a.2.1, q.1 h0, rfl, q.2.2.1, q.2.2.2⟩) h
theorem c_P0v {a : a_T} (h0 : a.1 = 0) {s : s_T} (h : s_W G M d C S (c_Pv [] a s) pc L st s) : s_W G M d C S (c_V (fun s1 => c_Z a.2.2 s1 ∧ s_fr 0 212 s s1)) pc L st s :=
  s_mono (Nat.le_refl _) (Nat.le_refl _) (Nat.le_refl _) (fun r s1 q => ⟨q.1 h0, q.2.2.1, q.2.2.2⟩) h
end SRa
theorem lg_cmp_rf (x : Int64) : lg_cmp x x = 0 := by
  unfold lg_cmp
  rw [if_neg (fun q => by have : x.toInt < x.toInt := Int64.lt_iff_toInt_lt.mp q; omega), if_pos rfl]
/-- what always holds between the calls -/
def j_I (z : z_T) (s : s_T) : Prop := z_wf z ∧ c_Z z s ∧ m_R (z 0) s ∧ m_O z s
theorem j_end {z : z_T} {s1 s2 : s_T} (hz : z_wf z) (h1 : c_Z z s1) (h2 : m_Z z s2) (hf : s_fr 212 234 s1 s2) : j_I z s2 := ⟨hz, c_Z_fr hz h1 (s_fr_w hf (by decide) (by decide)), h2.1, h2.2⟩
set_option maxRecDepth 20000 in
set_option maxHeartbeats 1000000 in
theorem m_thrown {G : q_G} {s : s_T} {v : Int32} (hv : s 212 3 = v) : s_W G mX12_thrown 1 0 0 (c_I (fun y9 s1 => s1 = s ∧ y9 = v)) 0 (q_ent mX12_thrown [.ref 212]) [] s := by
  show s_W G mX12_thrown 1 0 0 _ 0 [some (.ref 212)] [] s
  refine r_aload_n dX12_thrown_0 rfl rfl ?_
  refine s_getI dX12_thrown_1 fX12_79 lysX12 rfl hv ?_
  exact s_iret dX12_thrown_4 rfl rfl ⟨_, rfl, rfl, rfl⟩
theorem j_L {a b c : Option Value} {i : Nat} : ∀ (i9 : Nat) (v9 : Value), ([some (.ref 1000000), some (.ref 0), some (.ref 212), some (.ref 234), some (.ref 235), some (.int (nI i)), none, none, none] : List (Option Value))[i9]? = some (some v9) → ([some (.ref 1000000), some (.ref 0), some (.ref 212), some (.ref 234), some (.ref 235), some (.int (nI i)), a, b, c] : List (Option Value))[i9]? = some (some v9) := by
  intro i9 v9 h
  match i9, h with
  | 0, h => exact h
  | 1, h => exact h
  | 2, h => exact h
  | 3, h => exact h
  | 4, h => exact h
  | 5, h => exact h
  | 6, h => cases h
  | 7, h => cases h
  | 8, h => cases h
  | n + 9, h => cases h
def jC (x : Int32) : Nat := (x.toUInt32 % 65536).toNat
theorem jC_lt (x : Int32) : jC x < 65536 := by
  unfold jC
  rw [UInt32.toNat_mod]
  exact Nat.mod_lt _ (by decide)
theorem i2c_n (x : Int32) : (x.toUInt32 % 65536).toInt32 = nI (jC x) := by
  unfold jC
  conv => lhs; rw [← UInt32.ofNat_toNat (x := x.toUInt32 % 65536)]
  rfl
set_option maxRecDepth 20000 in
set_option maxHeartbeats 1000000 in
theorem lc_0 {G : q_G} {s : s_T} {z : z_T} {i C S : Nat} {P : q_R → s_T → Prop} (hI : j_I z s) (hi : i + 5 ≤ G.2.2.1) (hG : G.2.2.1 ≤ 2560) (K : ∀ z1 s1, j_I z1 s1 → s_W G mL_law 20 C S P 2164 [some (.ref 1000000), some (.ref 0), some (.ref 212), some (.ref 234), some (.ref 235), some (.int (nI i)), none, none, none] [] s1) : s_W G mL_law 20 (C + 3) (S + 18) P 208 [some (.ref 1000000), some (.ref 0), some (.ref 212), some (.ref 234), some (.ref 235), some (.int (nI i)), none, none, none] [] s := by
  obtain ⟨hz, hZ, hM, hO⟩ := hI
  refine r_aload_n dL_law_208 rfl rfl ?_
  refine r_aload_n dL_law_209 rfl rfl ?_
  refine r_iload dL_law_210 rfl ?_
  refine n_const 1 dL_law_212 (by decide) ?_
  refine n_add dL_law_213 ?_
  refine r_sld dL_law_214 (n_bd (by omega) (by omega)) ?_
  refine r_aload_n dL_law_215 rfl rfl ?_
  refine r_iload dL_law_216 rfl ?_
  refine n_const 2 dL_law_218 (by decide) ?_
  refine n_add dL_law_219 ?_
  refine r_sld dL_law_220 (n_bd (by omega) (by omega)) ?_
  refine r_aload_n dL_law_221 rfl rfl ?_
  refine r_iload dL_law_222 rfl ?_
  refine n_const 3 dL_law_224 (by decide) ?_
  refine n_add dL_law_225 ?_
  refine r_sld dL_law_226 (n_bd (by omega) (by omega)) ?_
  refine r_aload_n dL_law_227 rfl rfl ?_
  refine s_SI mL_addJob [.ref 0, .int (G.2.2.2 (nI (i + 1)).toNatClampNeg), .int (G.2.2.2 (nI (i + 2)).toNatClampNeg), .int (G.2.2.2 (nI (i + 3)).toNatClampNeg), .ref 234] dL_law_228 okL_addJob lL_118 npL_addJob (by omega) (by omega) (by omega) (Nat.le_of_ble_eq_true rfl) (Nat.le_of_ble_eq_true rfl) rfl (lw_addJob hz hZ) (fun y1 s1 hq => ?_)
  obtain ⟨rfl, h4, hv, hZ1, hf1⟩ := hq
  obtain ⟨hM1, hO1⟩ := m_Z_fr hM hO hf1
  refine r_istore dL_law_231 (by decide) rfl ?_
  refine r_aload_n dL_law_233 rfl rfl ?_
  refine r_aload_n dL_law_234 rfl rfl ?_
  refine r_iload dL_law_235 rfl ?_
  refine n_const 1 dL_law_237 (by decide) ?_
  refine n_add dL_law_238 ?_
  refine r_sld dL_law_239 (n_bd (by omega) (by omega)) ?_
  refine r_aload_n dL_law_240 rfl rfl ?_
  refine r_iload dL_law_241 rfl ?_
  refine n_const 2 dL_law_243 (by decide) ?_
  refine n_add dL_law_244 ?_
  refine r_sld dL_law_245 (n_bd (by omega) (by omega)) ?_
  refine r_aload_n dL_law_246 rfl rfl ?_
  refine r_iload dL_law_247 rfl ?_
  refine n_const 3 dL_law_249 (by decide) ?_
  refine n_add dL_law_250 ?_
  refine r_sld dL_law_251 (n_bd (by omega) (by omega)) ?_
  refine s_VI mX12_addJob [.int (G.2.2.2 (nI (i + 1)).toNatClampNeg), .int (G.2.2.2 (nI (i + 2)).toNatClampNeg), .int (G.2.2.2 (nI (i + 3)).toNatClampNeg)] dL_law_252 okX12_addJob lL_123 npX12_addJob lysX12 rfl (by omega) (by omega) (by omega) (Nat.le_of_ble_eq_true rfl) (Nat.le_of_ble_eq_true rfl) rfl (m_addJob hz hM1 hO1) (fun y2 s2 hq => ?_)
  obtain ⟨hy, ht, hZ2, hf2⟩ := hq
  refine r_istore dL_law_255 (by decide) rfl ?_
  refine r_aload_n dL_law_257 rfl rfl ?_
  refine s_VI mX12_thrown [] dL_law_258 okX12_thrown lL_124 npX12_thrown lysX12 rfl (by omega) (by omega) (by omega) (Nat.le_of_ble_eq_true rfl) (Nat.le_of_ble_eq_true rfl) rfl (m_thrown ht) (fun y3 s3 hq => ?_)
  obtain ⟨e9, rfl⟩ := hq
  replace e9 := e9.symm
  subst e9
  refine r_iload dL_law_261 rfl ?_
  refine r_icmp_eq (tgt := 268) dL_law_263 (by decide) (fun c9 => ?_) (fun c9 => absurd rfl c9)
  refine r_iload dL_law_268 rfl ?_
  refine n_ifne (tgt := 285) dL_law_270 (by decide) (by omega) (fun c9 => ?_) (fun c9 => ?_)
  · refine r_goto (tgt := 2164) dL_law_285 (by decide) ?_
    refine s_mono (d := 20) (C := C) (S := S) (Nat.le_refl _) (by omega) (by omega) (fun _ _ q => q) ?_
    refine q_W_L (L := [some (.ref 1000000), some (.ref 0), some (.ref 212), some (.ref 234), some (.ref 235), some (.int (nI i)), none, none, none]) ?_ (K _ _ (j_end (zA_addJob hz) hZ1 hZ2 hf2))
    exact j_L
  · refine r_aload_n dL_law_273 rfl rfl ?_
    refine n_const 0 dL_law_274 (by decide) ?_
    refine s_lald dL_law_275 ?_
    refine r_iload dL_law_276 rfl ?_
    refine r_i2l dL_law_278 rfl ?_
    refine r_lcmp dL_law_279 ?_
    have e8 : s2 234 0 = y2 := by rw [hf2 234 (by omega), hv c9, hy c9]
    rw [e8, lg_cmp_rf]
    refine r_if_eq (tgt := 285) dL_law_280 (by decide) (fun c8 => ?_) (fun c8 => absurd rfl c8)
    refine r_goto (tgt := 2164) dL_law_285 (by decide) ?_
    refine s_mono (d := 20) (C := C) (S := S) (Nat.le_refl _) (by omega) (by omega) (fun _ _ q => q) ?_
    refine q_W_L (L := [some (.ref 1000000), some (.ref 0), some (.ref 212), some (.ref 234), some (.ref 235), some (.int (nI i)), none, none, none]) ?_ (K _ _ (j_end (zA_addJob hz) hZ1 hZ2 hf2))
    exact j_L
set_option maxRecDepth 20000 in
set_option maxHeartbeats 1000000 in
theorem lc_1 {G : q_G} {s : s_T} {z : z_T} {i C S : Nat} {P : q_R → s_T → Prop} (hI : j_I z s) (hi : i + 5 ≤ G.2.2.1) (hG : G.2.2.1 ≤ 2560) (K : ∀ z1 s1, j_I z1 s1 → s_W G mL_law 20 C S P 2164 [some (.ref 1000000), some (.ref 0), some (.ref 212), some (.ref 234), some (.ref 235), some (.int (nI i)), none, none, none] [] s1) : s_W G mL_law 20 (C + 3) (S + 18) P 288 [some (.ref 1000000), some (.ref 0), some (.ref 212), some (.ref 234), some (.ref 235), some (.int (nI i)), none, none, none] [] s := by
  obtain ⟨hz, hZ, hM, hO⟩ := hI
  refine r_aload_n dL_law_288 rfl rfl ?_
  refine r_aload_n dL_law_289 rfl rfl ?_
  refine r_iload dL_law_290 rfl ?_
  refine n_const 1 dL_law_292 (by decide) ?_
  refine n_add dL_law_293 ?_
  refine r_sld dL_law_294 (n_bd (by omega) (by omega)) ?_
  refine r_aload_n dL_law_295 rfl rfl ?_
  refine r_iload dL_law_296 rfl ?_
  refine n_const 2 dL_law_298 (by decide) ?_
  refine n_add dL_law_299 ?_
  refine r_sld dL_law_300 (n_bd (by omega) (by omega)) ?_
  refine r_aload_n dL_law_301 rfl rfl ?_
  refine r_iload dL_law_302 rfl ?_
  refine n_const 3 dL_law_304 (by decide) ?_
  refine n_add dL_law_305 ?_
  refine r_sld dL_law_306 (n_bd (by omega) (by omega)) ?_
  refine r_aload_n dL_law_307 rfl rfl ?_
  refine r_iload dL_law_308 rfl ?_
  refine n_const 4 dL_law_310 (by decide) ?_
  refine n_add dL_law_311 ?_
  refine r_sld dL_law_312 (n_bd (by omega) (by omega)) ?_
  refine r_aload_n dL_law_313 rfl rfl ?_
  refine s_SI mL_addOperation [.ref 0, .int (G.2.2.2 (nI (i + 1)).toNatClampNeg), .int (G.2.2.2 (nI (i + 2)).toNatClampNeg), .int (G.2.2.2 (nI (i + 3)).toNatClampNeg), .int (G.2.2.2 (nI (i + 4)).toNatClampNeg), .ref 234] dL_law_314 okL_addOperation lL_127 npL_addOperation (by omega) (by omega) (by omega) (Nat.le_of_ble_eq_true rfl) (Nat.le_of_ble_eq_true rfl) rfl (lw_addOperation hz hZ) (fun y1 s1 hq => ?_)
  obtain ⟨rfl, h4, hv, hZ1, hf1⟩ := hq
  obtain ⟨hM1, hO1⟩ := m_Z_fr hM hO hf1
  refine r_istore dL_law_317 (by decide) rfl ?_
  refine r_aload_n dL_law_319 rfl rfl ?_
  refine r_aload_n dL_law_320 rfl rfl ?_
  refine r_iload dL_law_321 rfl ?_
  refine n_const 1 dL_law_323 (by decide) ?_
  refine n_add dL_law_324 ?_
  refine r_sld dL_law_325 (n_bd (by omega) (by omega)) ?_
  refine r_aload_n dL_law_326 rfl rfl ?_
  refine r_iload dL_law_327 rfl ?_
  refine n_const 2 dL_law_329 (by decide) ?_
  refine n_add dL_law_330 ?_
  refine r_sld dL_law_331 (n_bd (by omega) (by omega)) ?_
  refine r_aload_n dL_law_332 rfl rfl ?_
  refine r_iload dL_law_333 rfl ?_
  refine n_const 3 dL_law_335 (by decide) ?_
  refine n_add dL_law_336 ?_
  refine r_sld dL_law_337 (n_bd (by omega) (by omega)) ?_
  refine r_aload_n dL_law_338 rfl rfl ?_
  refine r_iload dL_law_339 rfl ?_
  refine n_const 4 dL_law_341 (by decide) ?_
  refine n_add dL_law_342 ?_
  refine r_sld dL_law_343 (n_bd (by omega) (by omega)) ?_
  refine s_VI mX12_addOperation [.int (G.2.2.2 (nI (i + 1)).toNatClampNeg), .int (G.2.2.2 (nI (i + 2)).toNatClampNeg), .int (G.2.2.2 (nI (i + 3)).toNatClampNeg), .int (G.2.2.2 (nI (i + 4)).toNatClampNeg)] dL_law_344 okX12_addOperation lL_130 npX12_addOperation lysX12 rfl (by omega) (by omega) (by omega) (Nat.le_of_ble_eq_true rfl) (Nat.le_of_ble_eq_true rfl) rfl (m_addOperation hz hM1 hO1) (fun y2 s2 hq => ?_)
  obtain ⟨hy, ht, hZ2, hf2⟩ := hq
  refine r_istore dL_law_347 (by decide) rfl ?_
  refine r_aload_n dL_law_349 rfl rfl ?_
  refine s_VI mX12_thrown [] dL_law_350 okX12_thrown lL_124 npX12_thrown lysX12 rfl (by omega) (by omega) (by omega) (Nat.le_of_ble_eq_true rfl) (Nat.le_of_ble_eq_true rfl) rfl (m_thrown ht) (fun y3 s3 hq => ?_)
  obtain ⟨e9, rfl⟩ := hq
  replace e9 := e9.symm
  subst e9
  refine r_iload dL_law_353 rfl ?_
  refine r_icmp_eq (tgt := 360) dL_law_355 (by decide) (fun c9 => ?_) (fun c9 => absurd rfl c9)
  refine r_iload dL_law_360 rfl ?_
  refine n_ifne (tgt := 377) dL_law_362 (by decide) (by omega) (fun c9 => ?_) (fun c9 => ?_)
  · refine r_goto (tgt := 2164) dL_law_377 (by decide) ?_
    refine s_mono (d := 20) (C := C) (S := S) (Nat.le_refl _) (by omega) (by omega) (fun _ _ q => q) ?_
    refine q_W_L (L := [some (.ref 1000000), some (.ref 0), some (.ref 212), some (.ref 234), some (.ref 235), some (.int (nI i)), none, none, none]) ?_ (K _ _ (j_end (zA_addOperation hz) hZ1 hZ2 hf2))
    exact j_L
  · refine r_aload_n dL_law_365 rfl rfl ?_
    refine n_const 0 dL_law_366 (by decide) ?_
    refine s_lald dL_law_367 ?_
    refine r_iload dL_law_368 rfl ?_
    refine r_i2l dL_law_370 rfl ?_
    refine r_lcmp dL_law_371 ?_
    have e8 : s2 234 0 = y2 := by rw [hf2 234 (by omega), hv c9, hy c9]
    rw [e8, lg_cmp_rf]
    refine r_if_eq (tgt := 377) dL_law_372 (by decide) (fun c8 => ?_) (fun c8 => absurd rfl c8)
    refine r_goto (tgt := 2164) dL_law_377 (by decide) ?_
    refine s_mono (d := 20) (C := C) (S := S) (Nat.le_refl _) (by omega) (by omega) (fun _ _ q => q) ?_
    refine q_W_L (L := [some (.ref 1000000), some (.ref 0), some (.ref 212), some (.ref 234), some (.ref 235), some (.int (nI i)), none, none, none]) ?_ (K _ _ (j_end (zA_addOperation hz) hZ1 hZ2 hf2))
    exact j_L
set_option maxRecDepth 20000 in
set_option maxHeartbeats 1000000 in
theorem lc_2 {G : q_G} {s : s_T} {z : z_T} {i C S : Nat} {P : q_R → s_T → Prop} (hI : j_I z s) (hi : i + 5 ≤ G.2.2.1) (hG : G.2.2.1 ≤ 2560) (K : ∀ z1 s1, j_I z1 s1 → s_W G mL_law 20 C S P 2164 [some (.ref 1000000), some (.ref 0), some (.ref 212), some (.ref 234), some (.ref 235), some (.int (nI i)), none, none, none] [] s1) : s_W G mL_law 20 (C + 3) (S + 18) P 380 [some (.ref 1000000), some (.ref 0), some (.ref 212), some (.ref 234), some (.ref 235), some (.int (nI i)), none, none, none] [] s := by
  obtain ⟨hz, hZ, hM, hO⟩ := hI
  refine r_aload_n dL_law_380 rfl rfl ?_
  refine r_aload_n dL_law_381 rfl rfl ?_
  refine r_iload dL_law_382 rfl ?_
  refine n_const 1 dL_law_384 (by decide) ?_
  refine n_add dL_law_385 ?_
  refine r_sld dL_law_386 (n_bd (by omega) (by omega)) ?_
  refine r_aload_n dL_law_387 rfl rfl ?_
  refine r_iload dL_law_388 rfl ?_
  refine n_const 2 dL_law_390 (by decide) ?_
  refine n_add dL_law_391 ?_
  refine r_sld dL_law_392 (n_bd (by omega) (by omega)) ?_
  refine r_aload_n dL_law_393 rfl rfl ?_
  refine r_iload dL_law_394 rfl ?_
  refine n_const 3 dL_law_396 (by decide) ?_
  refine n_add dL_law_397 ?_
  refine r_sld dL_law_398 (n_bd (by omega) (by omega)) ?_
  refine r_aload_n dL_law_399 rfl rfl ?_
  refine s_SI mL_setJob [.ref 0, .int (G.2.2.2 (nI (i + 1)).toNatClampNeg), .int (G.2.2.2 (nI (i + 2)).toNatClampNeg), .int (G.2.2.2 (nI (i + 3)).toNatClampNeg), .ref 234] dL_law_400 okL_setJob lL_131 npL_setJob (by omega) (by omega) (by omega) (Nat.le_of_ble_eq_true rfl) (Nat.le_of_ble_eq_true rfl) rfl (lw_setJob hz hZ) (fun y1 s1 hq => ?_)
  obtain ⟨rfl, h4, hv, hZ1, hf1⟩ := hq
  obtain ⟨hM1, hO1⟩ := m_Z_fr hM hO hf1
  refine r_istore dL_law_403 (by decide) rfl ?_
  refine r_aload_n dL_law_405 rfl rfl ?_
  refine r_aload_n dL_law_406 rfl rfl ?_
  refine r_iload dL_law_407 rfl ?_
  refine n_const 1 dL_law_409 (by decide) ?_
  refine n_add dL_law_410 ?_
  refine r_sld dL_law_411 (n_bd (by omega) (by omega)) ?_
  refine r_aload_n dL_law_412 rfl rfl ?_
  refine r_iload dL_law_413 rfl ?_
  refine n_const 2 dL_law_415 (by decide) ?_
  refine n_add dL_law_416 ?_
  refine r_sld dL_law_417 (n_bd (by omega) (by omega)) ?_
  refine r_aload_n dL_law_418 rfl rfl ?_
  refine r_iload dL_law_419 rfl ?_
  refine n_const 3 dL_law_421 (by decide) ?_
  refine n_add dL_law_422 ?_
  refine r_sld dL_law_423 (n_bd (by omega) (by omega)) ?_
  refine s_VI mX12_setJob [.int (G.2.2.2 (nI (i + 1)).toNatClampNeg), .int (G.2.2.2 (nI (i + 2)).toNatClampNeg), .int (G.2.2.2 (nI (i + 3)).toNatClampNeg)] dL_law_424 okX12_setJob lL_133 npX12_setJob lysX12 rfl (by omega) (by omega) (by omega) (Nat.le_of_ble_eq_true rfl) (Nat.le_of_ble_eq_true rfl) rfl (m_setJob hz hM1 hO1) (fun y2 s2 hq => ?_)
  obtain ⟨hy, ht, hZ2, hf2⟩ := hq
  refine r_istore dL_law_427 (by decide) rfl ?_
  refine r_aload_n dL_law_429 rfl rfl ?_
  refine s_VI mX12_thrown [] dL_law_430 okX12_thrown lL_124 npX12_thrown lysX12 rfl (by omega) (by omega) (by omega) (Nat.le_of_ble_eq_true rfl) (Nat.le_of_ble_eq_true rfl) rfl (m_thrown ht) (fun y3 s3 hq => ?_)
  obtain ⟨e9, rfl⟩ := hq
  replace e9 := e9.symm
  subst e9
  refine r_iload dL_law_433 rfl ?_
  refine r_icmp_eq (tgt := 440) dL_law_435 (by decide) (fun c9 => ?_) (fun c9 => absurd rfl c9)
  refine r_iload dL_law_440 rfl ?_
  refine n_ifne (tgt := 457) dL_law_442 (by decide) (by omega) (fun c9 => ?_) (fun c9 => ?_)
  · refine r_goto (tgt := 2164) dL_law_457 (by decide) ?_
    refine s_mono (d := 20) (C := C) (S := S) (Nat.le_refl _) (by omega) (by omega) (fun _ _ q => q) ?_
    refine q_W_L (L := [some (.ref 1000000), some (.ref 0), some (.ref 212), some (.ref 234), some (.ref 235), some (.int (nI i)), none, none, none]) ?_ (K _ _ (j_end (zA_setJob hz) hZ1 hZ2 hf2))
    exact j_L
  · refine r_aload_n dL_law_445 rfl rfl ?_
    refine n_const 0 dL_law_446 (by decide) ?_
    refine s_lald dL_law_447 ?_
    refine r_iload dL_law_448 rfl ?_
    refine r_i2l dL_law_450 rfl ?_
    refine r_lcmp dL_law_451 ?_
    have e8 : s2 234 0 = y2 := by rw [hf2 234 (by omega), hv c9, hy c9]
    rw [e8, lg_cmp_rf]
    refine r_if_eq (tgt := 457) dL_law_452 (by decide) (fun c8 => ?_) (fun c8 => absurd rfl c8)
    refine r_goto (tgt := 2164) dL_law_457 (by decide) ?_
    refine s_mono (d := 20) (C := C) (S := S) (Nat.le_refl _) (by omega) (by omega) (fun _ _ q => q) ?_
    refine q_W_L (L := [some (.ref 1000000), some (.ref 0), some (.ref 212), some (.ref 234), some (.ref 235), some (.int (nI i)), none, none, none]) ?_ (K _ _ (j_end (zA_setJob hz) hZ1 hZ2 hf2))
    exact j_L
set_option maxRecDepth 20000 in
set_option maxHeartbeats 1000000 in
theorem lc_3 {G : q_G} {s : s_T} {z : z_T} {i C S : Nat} {P : q_R → s_T → Prop} (hI : j_I z s) (hi : i + 5 ≤ G.2.2.1) (hG : G.2.2.1 ≤ 2560) (K : ∀ z1 s1, j_I z1 s1 → s_W G mL_law 20 C S P 2164 [some (.ref 1000000), some (.ref 0), some (.ref 212), some (.ref 234), some (.ref 235), some (.int (nI i)), none, none, none] [] s1) : s_W G mL_law 20 (C + 3) (S + 18) P 460 [some (.ref 1000000), some (.ref 0), some (.ref 212), some (.ref 234), some (.ref 235), some (.int (nI i)), none, none, none] [] s := by
  obtain ⟨hz, hZ, hM, hO⟩ := hI
  refine r_aload_n dL_law_460 rfl rfl ?_
  refine r_aload_n dL_law_461 rfl rfl ?_
  refine r_iload dL_law_462 rfl ?_
  refine n_const 1 dL_law_464 (by decide) ?_
  refine n_add dL_law_465 ?_
  refine r_sld dL_law_466 (n_bd (by omega) (by omega)) ?_
  refine r_aload_n dL_law_467 rfl rfl ?_
  refine r_iload dL_law_468 rfl ?_
  refine n_const 2 dL_law_470 (by decide) ?_
  refine n_add dL_law_471 ?_
  refine r_sld dL_law_472 (n_bd (by omega) (by omega)) ?_
  refine r_aload_n dL_law_473 rfl rfl ?_
  refine s_SI mL_setDuration [.ref 0, .int (G.2.2.2 (nI (i + 1)).toNatClampNeg), .int (G.2.2.2 (nI (i + 2)).toNatClampNeg), .ref 234] dL_law_474 okL_setDuration lL_134 npL_setDuration (by omega) (by omega) (by omega) (Nat.le_of_ble_eq_true rfl) (Nat.le_of_ble_eq_true rfl) rfl (lw_setDuration hz hZ) (fun y1 s1 hq => ?_)
  obtain ⟨rfl, h4, hv, hZ1, hf1⟩ := hq
  obtain ⟨hM1, hO1⟩ := m_Z_fr hM hO hf1
  refine r_istore dL_law_477 (by decide) rfl ?_
  refine r_aload_n dL_law_479 rfl rfl ?_
  refine r_aload_n dL_law_480 rfl rfl ?_
  refine r_iload dL_law_481 rfl ?_
  refine n_const 1 dL_law_483 (by decide) ?_
  refine n_add dL_law_484 ?_
  refine r_sld dL_law_485 (n_bd (by omega) (by omega)) ?_
  refine r_aload_n dL_law_486 rfl rfl ?_
  refine r_iload dL_law_487 rfl ?_
  refine n_const 2 dL_law_489 (by decide) ?_
  refine n_add dL_law_490 ?_
  refine r_sld dL_law_491 (n_bd (by omega) (by omega)) ?_
  refine s_VI mX12_setDuration [.int (G.2.2.2 (nI (i + 1)).toNatClampNeg), .int (G.2.2.2 (nI (i + 2)).toNatClampNeg)] dL_law_492 okX12_setDuration lL_137 npX12_setDuration lysX12 rfl (by omega) (by omega) (by omega) (Nat.le_of_ble_eq_true rfl) (Nat.le_of_ble_eq_true rfl) rfl (m_setDuration hz hM1 hO1) (fun y2 s2 hq => ?_)
  obtain ⟨hy, ht, hZ2, hf2⟩ := hq
  refine r_istore dL_law_495 (by decide) rfl ?_
  refine r_aload_n dL_law_497 rfl rfl ?_
  refine s_VI mX12_thrown [] dL_law_498 okX12_thrown lL_124 npX12_thrown lysX12 rfl (by omega) (by omega) (by omega) (Nat.le_of_ble_eq_true rfl) (Nat.le_of_ble_eq_true rfl) rfl (m_thrown ht) (fun y3 s3 hq => ?_)
  obtain ⟨e9, rfl⟩ := hq
  replace e9 := e9.symm
  subst e9
  refine r_iload dL_law_501 rfl ?_
  refine r_icmp_eq (tgt := 508) dL_law_503 (by decide) (fun c9 => ?_) (fun c9 => absurd rfl c9)
  refine r_iload dL_law_508 rfl ?_
  refine n_ifne (tgt := 525) dL_law_510 (by decide) (by omega) (fun c9 => ?_) (fun c9 => ?_)
  · refine r_goto (tgt := 2164) dL_law_525 (by decide) ?_
    refine s_mono (d := 20) (C := C) (S := S) (Nat.le_refl _) (by omega) (by omega) (fun _ _ q => q) ?_
    refine q_W_L (L := [some (.ref 1000000), some (.ref 0), some (.ref 212), some (.ref 234), some (.ref 235), some (.int (nI i)), none, none, none]) ?_ (K _ _ (j_end (zA_setDuration hz) hZ1 hZ2 hf2))
    exact j_L
  · refine r_aload_n dL_law_513 rfl rfl ?_
    refine n_const 0 dL_law_514 (by decide) ?_
    refine s_lald dL_law_515 ?_
    refine r_iload dL_law_516 rfl ?_
    refine r_i2l dL_law_518 rfl ?_
    refine r_lcmp dL_law_519 ?_
    have e8 : s2 234 0 = y2 := by rw [hf2 234 (by omega), hv c9, hy c9]
    rw [e8, lg_cmp_rf]
    refine r_if_eq (tgt := 525) dL_law_520 (by decide) (fun c8 => ?_) (fun c8 => absurd rfl c8)
    refine r_goto (tgt := 2164) dL_law_525 (by decide) ?_
    refine s_mono (d := 20) (C := C) (S := S) (Nat.le_refl _) (by omega) (by omega) (fun _ _ q => q) ?_
    refine q_W_L (L := [some (.ref 1000000), some (.ref 0), some (.ref 212), some (.ref 234), some (.ref 235), some (.int (nI i)), none, none, none]) ?_ (K _ _ (j_end (zA_setDuration hz) hZ1 hZ2 hf2))
    exact j_L
set_option maxRecDepth 20000 in
set_option maxHeartbeats 1000000 in
theorem lc_4 {G : q_G} {s : s_T} {z : z_T} {i C S : Nat} {P : q_R → s_T → Prop} (hI : j_I z s) (hi : i + 5 ≤ G.2.2.1) (hG : G.2.2.1 ≤ 2560) (K : ∀ z1 s1, j_I z1 s1 → s_W G mL_law 20 C S P 2164 [some (.ref 1000000), some (.ref 0), some (.ref 212), some (.ref 234), some (.ref 235), some (.int (nI i)), none, none, none] [] s1) : s_W G mL_law 20 (C + 3) (S + 18) P 528 [some (.ref 1000000), some (.ref 0), some (.ref 212), some (.ref 234), some (.ref 235), some (.int (nI i)), none, none, none] [] s := by
  obtain ⟨hz, hZ, hM, hO⟩ := hI
  refine r_aload_n dL_law_528 rfl rfl ?_
  refine r_aload_n dL_law_529 rfl rfl ?_
  refine r_iload dL_law_530 rfl ?_
  refine n_const 1 dL_law_532 (by decide) ?_
  refine n_add dL_law_533 ?_
  refine r_sld dL_law_534 (n_bd (by omega) (by omega)) ?_
  refine r_aload_n dL_law_535 rfl rfl ?_
  refine r_iload dL_law_536 rfl ?_
  refine n_const 2 dL_law_538 (by decide) ?_
  refine n_add dL_law_539 ?_
  refine r_sld dL_law_540 (n_bd (by omega) (by omega)) ?_
  refine r_aload_n dL_law_541 rfl rfl ?_
  refine r_iload dL_law_542 rfl ?_
  refine n_const 3 dL_law_544 (by decide) ?_
  refine n_add dL_law_545 ?_
  refine r_sld dL_law_546 (n_bd (by omega) (by omega)) ?_
  refine r_aload_n dL_law_547 rfl rfl ?_
  refine s_SI mL_setSetup [.ref 0, .int (G.2.2.2 (nI (i + 1)).toNatClampNeg), .int (G.2.2.2 (nI (i + 2)).toNatClampNeg), .int (G.2.2.2 (nI (i + 3)).toNatClampNeg), .ref 234] dL_law_548 okL_setSetup lL_138 npL_setSetup (by omega) (by omega) (by omega) (Nat.le_of_ble_eq_true rfl) (Nat.le_of_ble_eq_true rfl) rfl (lw_setSetup hz hZ) (fun y1 s1 hq => ?_)
  obtain ⟨rfl, h4, hv, hZ1, hf1⟩ := hq
  obtain ⟨hM1, hO1⟩ := m_Z_fr hM hO hf1
  refine r_istore dL_law_551 (by decide) rfl ?_
  refine r_aload_n dL_law_553 rfl rfl ?_
  refine r_aload_n dL_law_554 rfl rfl ?_
  refine r_iload dL_law_555 rfl ?_
  refine n_const 1 dL_law_557 (by decide) ?_
  refine n_add dL_law_558 ?_
  refine r_sld dL_law_559 (n_bd (by omega) (by omega)) ?_
  refine r_aload_n dL_law_560 rfl rfl ?_
  refine r_iload dL_law_561 rfl ?_
  refine n_const 2 dL_law_563 (by decide) ?_
  refine n_add dL_law_564 ?_
  refine r_sld dL_law_565 (n_bd (by omega) (by omega)) ?_
  refine r_aload_n dL_law_566 rfl rfl ?_
  refine r_iload dL_law_567 rfl ?_
  refine n_const 3 dL_law_569 (by decide) ?_
  refine n_add dL_law_570 ?_
  refine r_sld dL_law_571 (n_bd (by omega) (by omega)) ?_
  refine s_VI mX12_setSetup [.int (G.2.2.2 (nI (i + 1)).toNatClampNeg), .int (G.2.2.2 (nI (i + 2)).toNatClampNeg), .int (G.2.2.2 (nI (i + 3)).toNatClampNeg)] dL_law_572 okX12_setSetup lL_140 npX12_setSetup lysX12 rfl (by omega) (by omega) (by omega) (Nat.le_of_ble_eq_true rfl) (Nat.le_of_ble_eq_true rfl) rfl (m_setSetup hz hM1 hO1) (fun y2 s2 hq => ?_)
  obtain ⟨hy, ht, hZ2, hf2⟩ := hq
  refine r_istore dL_law_575 (by decide) rfl ?_
  refine r_aload_n dL_law_577 rfl rfl ?_
  refine s_VI mX12_thrown [] dL_law_578 okX12_thrown lL_124 npX12_thrown lysX12 rfl (by omega) (by omega) (by omega) (Nat.le_of_ble_eq_true rfl) (Nat.le_of_ble_eq_true rfl) rfl (m_thrown ht) (fun y3 s3 hq => ?_)
  obtain ⟨e9, rfl⟩ := hq
  replace e9 := e9.symm
  subst e9
  refine r_iload dL_law_581 rfl ?_
  refine r_icmp_eq (tgt := 588) dL_law_583 (by decide) (fun c9 => ?_) (fun c9 => absurd rfl c9)
  refine r_iload dL_law_588 rfl ?_
  refine n_ifne (tgt := 605) dL_law_590 (by decide) (by omega) (fun c9 => ?_) (fun c9 => ?_)
  · refine r_goto (tgt := 2164) dL_law_605 (by decide) ?_
    refine s_mono (d := 20) (C := C) (S := S) (Nat.le_refl _) (by omega) (by omega) (fun _ _ q => q) ?_
    refine q_W_L (L := [some (.ref 1000000), some (.ref 0), some (.ref 212), some (.ref 234), some (.ref 235), some (.int (nI i)), none, none, none]) ?_ (K _ _ (j_end (zA_setSetup hz) hZ1 hZ2 hf2))
    exact j_L
  · refine r_aload_n dL_law_593 rfl rfl ?_
    refine n_const 0 dL_law_594 (by decide) ?_
    refine s_lald dL_law_595 ?_
    refine r_iload dL_law_596 rfl ?_
    refine r_i2l dL_law_598 rfl ?_
    refine r_lcmp dL_law_599 ?_
    have e8 : s2 234 0 = y2 := by rw [hf2 234 (by omega), hv c9, hy c9]
    rw [e8, lg_cmp_rf]
    refine r_if_eq (tgt := 605) dL_law_600 (by decide) (fun c8 => ?_) (fun c8 => absurd rfl c8)
    refine r_goto (tgt := 2164) dL_law_605 (by decide) ?_
    refine s_mono (d := 20) (C := C) (S := S) (Nat.le_refl _) (by omega) (by omega) (fun _ _ q => q) ?_
    refine q_W_L (L := [some (.ref 1000000), some (.ref 0), some (.ref 212), some (.ref 234), some (.ref 235), some (.int (nI i)), none, none, none]) ?_ (K _ _ (j_end (zA_setSetup hz) hZ1 hZ2 hf2))
    exact j_L
set_option maxRecDepth 20000 in
set_option maxHeartbeats 1000000 in
theorem lc_5 {G : q_G} {s : s_T} {z : z_T} {i C S : Nat} {P : q_R → s_T → Prop} (hI : j_I z s) (hi : i + 5 ≤ G.2.2.1) (hG : G.2.2.1 ≤ 2560) (K : ∀ z1 s1, j_I z1 s1 → s_W G mL_law 20 C S P 2164 [some (.ref 1000000), some (.ref 0), some (.ref 212), some (.ref 234), some (.ref 235), some (.int (nI i)), none, none, none] [] s1) : s_W G mL_law 20 (C + 3) (S + 18) P 608 [some (.ref 1000000), some (.ref 0), some (.ref 212), some (.ref 234), some (.ref 235), some (.int (nI i)), none, none, none] [] s := by
  obtain ⟨hz, hZ, hM, hO⟩ := hI
  refine r_aload_n dL_law_608 rfl rfl ?_
  refine r_aload_n dL_law_609 rfl rfl ?_
  refine r_iload dL_law_610 rfl ?_
  refine n_const 1 dL_law_612 (by decide) ?_
  refine n_add dL_law_613 ?_
  refine r_sld dL_law_614 (n_bd (by omega) (by omega)) ?_
  refine r_aload_n dL_law_615 rfl rfl ?_
  refine r_iload dL_law_616 rfl ?_
  refine n_const 2 dL_law_618 (by decide) ?_
  refine n_add dL_law_619 ?_
  refine r_sld dL_law_620 (n_bd (by omega) (by omega)) ?_
  refine r_aload_n dL_law_621 rfl rfl ?_
  refine r_iload dL_law_622 rfl ?_
  refine n_const 3 dL_law_624 (by decide) ?_
  refine n_add dL_law_625 ?_
  refine r_sld dL_law_626 (n_bd (by omega) (by omega)) ?_
  refine r_aload_n dL_law_627 rfl rfl ?_
  refine s_SI mL_addBreakdown [.ref 0, .int (G.2.2.2 (nI (i + 1)).toNatClampNeg), .int (G.2.2.2 (nI (i + 2)).toNatClampNeg), .int (G.2.2.2 (nI (i + 3)).toNatClampNeg), .ref 234] dL_law_628 okL_addBreakdown lL_141 npL_addBreakdown (by omega) (by omega) (by omega) (Nat.le_of_ble_eq_true rfl) (Nat.le_of_ble_eq_true rfl) rfl (lw_addBreakdown hz hZ) (fun y1 s1 hq => ?_)
  obtain ⟨rfl, h4, hv, hZ1, hf1⟩ := hq
  obtain ⟨hM1, hO1⟩ := m_Z_fr hM hO hf1
  refine r_istore dL_law_631 (by decide) rfl ?_
  refine r_aload_n dL_law_633 rfl rfl ?_
  refine r_aload_n dL_law_634 rfl rfl ?_
  refine r_iload dL_law_635 rfl ?_
  refine n_const 1 dL_law_637 (by decide) ?_
  refine n_add dL_law_638 ?_
  refine r_sld dL_law_639 (n_bd (by omega) (by omega)) ?_
  refine r_aload_n dL_law_640 rfl rfl ?_
  refine r_iload dL_law_641 rfl ?_
  refine n_const 2 dL_law_643 (by decide) ?_
  refine n_add dL_law_644 ?_
  refine r_sld dL_law_645 (n_bd (by omega) (by omega)) ?_
  refine r_aload_n dL_law_646 rfl rfl ?_
  refine r_iload dL_law_647 rfl ?_
  refine n_const 3 dL_law_649 (by decide) ?_
  refine n_add dL_law_650 ?_
  refine r_sld dL_law_651 (n_bd (by omega) (by omega)) ?_
  refine s_VI mX12_addBreakdown [.int (G.2.2.2 (nI (i + 1)).toNatClampNeg), .int (G.2.2.2 (nI (i + 2)).toNatClampNeg), .int (G.2.2.2 (nI (i + 3)).toNatClampNeg)] dL_law_652 okX12_addBreakdown lL_143 npX12_addBreakdown lysX12 rfl (by omega) (by omega) (by omega) (Nat.le_of_ble_eq_true rfl) (Nat.le_of_ble_eq_true rfl) rfl (m_addBreakdown hz hM1 hO1) (fun y2 s2 hq => ?_)
  obtain ⟨hy, ht, hZ2, hf2⟩ := hq
  refine r_istore dL_law_655 (by decide) rfl ?_
  refine r_aload_n dL_law_657 rfl rfl ?_
  refine s_VI mX12_thrown [] dL_law_658 okX12_thrown lL_124 npX12_thrown lysX12 rfl (by omega) (by omega) (by omega) (Nat.le_of_ble_eq_true rfl) (Nat.le_of_ble_eq_true rfl) rfl (m_thrown ht) (fun y3 s3 hq => ?_)
  obtain ⟨e9, rfl⟩ := hq
  replace e9 := e9.symm
  subst e9
  refine r_iload dL_law_661 rfl ?_
  refine r_icmp_eq (tgt := 668) dL_law_663 (by decide) (fun c9 => ?_) (fun c9 => absurd rfl c9)
  refine r_iload dL_law_668 rfl ?_
  refine n_ifne (tgt := 685) dL_law_670 (by decide) (by omega) (fun c9 => ?_) (fun c9 => ?_)
  · refine r_goto (tgt := 2164) dL_law_685 (by decide) ?_
    refine s_mono (d := 20) (C := C) (S := S) (Nat.le_refl _) (by omega) (by omega) (fun _ _ q => q) ?_
    refine q_W_L (L := [some (.ref 1000000), some (.ref 0), some (.ref 212), some (.ref 234), some (.ref 235), some (.int (nI i)), none, none, none]) ?_ (K _ _ (j_end (zA_addBreakdown hz) hZ1 hZ2 hf2))
    exact j_L
  · refine r_aload_n dL_law_673 rfl rfl ?_
    refine n_const 0 dL_law_674 (by decide) ?_
    refine s_lald dL_law_675 ?_
    refine r_iload dL_law_676 rfl ?_
    refine r_i2l dL_law_678 rfl ?_
    refine r_lcmp dL_law_679 ?_
    have e8 : s2 234 0 = y2 := by rw [hf2 234 (by omega), hv c9, hy c9]
    rw [e8, lg_cmp_rf]
    refine r_if_eq (tgt := 685) dL_law_680 (by decide) (fun c8 => ?_) (fun c8 => absurd rfl c8)
    refine r_goto (tgt := 2164) dL_law_685 (by decide) ?_
    refine s_mono (d := 20) (C := C) (S := S) (Nat.le_refl _) (by omega) (by omega) (fun _ _ q => q) ?_
    refine q_W_L (L := [some (.ref 1000000), some (.ref 0), some (.ref 212), some (.ref 234), some (.ref 235), some (.int (nI i)), none, none, none]) ?_ (K _ _ (j_end (zA_addBreakdown hz) hZ1 hZ2 hf2))
    exact j_L
set_option maxRecDepth 20000 in
set_option maxHeartbeats 1000000 in
theorem lc_6 {G : q_G} {s : s_T} {z : z_T} {i C S : Nat} {P : q_R → s_T → Prop} (hI : j_I z s) (hi : i + 5 ≤ G.2.2.1) (hG : G.2.2.1 ≤ 2560) (K : ∀ z1 s1, j_I z1 s1 → s_W G mL_law 20 C S P 2164 [some (.ref 1000000), some (.ref 0), some (.ref 212), some (.ref 234), some (.ref 235), some (.int (nI i)), none, none, none] [] s1) : s_W G mL_law 20 (C + 3) (S + 18) P 688 [some (.ref 1000000), some (.ref 0), some (.ref 212), some (.ref 234), some (.ref 235), some (.int (nI i)), none, none, none] [] s := by
  obtain ⟨hz, hZ, hM, hO⟩ := hI
  refine r_aload_n dL_law_688 rfl rfl ?_
  refine r_aload_n dL_law_689 rfl rfl ?_
  refine r_iload dL_law_690 rfl ?_
  refine n_const 1 dL_law_692 (by decide) ?_
  refine n_add dL_law_693 ?_
  refine r_sld dL_law_694 (n_bd (by omega) (by omega)) ?_
  refine r_aload_n dL_law_695 rfl rfl ?_
  refine s_SI mL_clearBreakdowns [.ref 0, .int (G.2.2.2 (nI (i + 1)).toNatClampNeg), .ref 234] dL_law_696 okL_clearBreakdowns lL_144 npL_clearBreakdowns (by omega) (by omega) (by omega) (Nat.le_of_ble_eq_true rfl) (Nat.le_of_ble_eq_true rfl) rfl (lw_clearBreakdowns hz hZ) (fun y1 s1 hq => ?_)
  obtain ⟨rfl, h4, hv, hZ1, hf1⟩ := hq
  obtain ⟨hM1, hO1⟩ := m_Z_fr hM hO hf1
  refine r_istore dL_law_699 (by decide) rfl ?_
  refine r_aload_n dL_law_701 rfl rfl ?_
  refine r_aload_n dL_law_702 rfl rfl ?_
  refine r_iload dL_law_703 rfl ?_
  refine n_const 1 dL_law_705 (by decide) ?_
  refine n_add dL_law_706 ?_
  refine r_sld dL_law_707 (n_bd (by omega) (by omega)) ?_
  refine s_VI mX12_clearBreakdowns [.int (G.2.2.2 (nI (i + 1)).toNatClampNeg)] dL_law_708 okX12_clearBreakdowns lL_147 npX12_clearBreakdowns lysX12 rfl (by omega) (by omega) (by omega) (Nat.le_of_ble_eq_true rfl) (Nat.le_of_ble_eq_true rfl) rfl (m_clearBreakdowns hz hM1 hO1) (fun y2 s2 hq => ?_)
  obtain ⟨hy, ht, hZ2, hf2⟩ := hq
  refine r_istore dL_law_711 (by decide) rfl ?_
  refine r_aload_n dL_law_713 rfl rfl ?_
  refine s_VI mX12_thrown [] dL_law_714 okX12_thrown lL_124 npX12_thrown lysX12 rfl (by omega) (by omega) (by omega) (Nat.le_of_ble_eq_true rfl) (Nat.le_of_ble_eq_true rfl) rfl (m_thrown ht) (fun y3 s3 hq => ?_)
  obtain ⟨e9, rfl⟩ := hq
  replace e9 := e9.symm
  subst e9
  refine r_iload dL_law_717 rfl ?_
  refine r_icmp_eq (tgt := 724) dL_law_719 (by decide) (fun c9 => ?_) (fun c9 => absurd rfl c9)
  refine r_iload dL_law_724 rfl ?_
  refine n_ifne (tgt := 741) dL_law_726 (by decide) (by omega) (fun c9 => ?_) (fun c9 => ?_)
  · refine r_goto (tgt := 2164) dL_law_741 (by decide) ?_
    refine s_mono (d := 20) (C := C) (S := S) (Nat.le_refl _) (by omega) (by omega) (fun _ _ q => q) ?_
    refine q_W_L (L := [some (.ref 1000000), some (.ref 0), some (.ref 212), some (.ref 234), some (.ref 235), some (.int (nI i)), none, none, none]) ?_ (K _ _ (j_end (zA_clearBreakdowns hz) hZ1 hZ2 hf2))
    exact j_L
  · refine r_aload_n dL_law_729 rfl rfl ?_
    refine n_const 0 dL_law_730 (by decide) ?_
    refine s_lald dL_law_731 ?_
    refine r_iload dL_law_732 rfl ?_
    refine r_i2l dL_law_734 rfl ?_
    refine r_lcmp dL_law_735 ?_
    have e8 : s2 234 0 = y2 := by rw [hf2 234 (by omega), hv c9, hy c9]
    rw [e8, lg_cmp_rf]
    refine r_if_eq (tgt := 741) dL_law_736 (by decide) (fun c8 => ?_) (fun c8 => absurd rfl c8)
    refine r_goto (tgt := 2164) dL_law_741 (by decide) ?_
    refine s_mono (d := 20) (C := C) (S := S) (Nat.le_refl _) (by omega) (by omega) (fun _ _ q => q) ?_
    refine q_W_L (L := [some (.ref 1000000), some (.ref 0), some (.ref 212), some (.ref 234), some (.ref 235), some (.int (nI i)), none, none, none]) ?_ (K _ _ (j_end (zA_clearBreakdowns hz) hZ1 hZ2 hf2))
    exact j_L
set_option maxRecDepth 20000 in
set_option maxHeartbeats 1000000 in
theorem lc_7 {G : q_G} {s : s_T} {z : z_T} {i C S : Nat} {P : q_R → s_T → Prop} (hI : j_I z s) (hi : i + 5 ≤ G.2.2.1) (hG : G.2.2.1 ≤ 2560) (K : ∀ z1 s1, j_I z1 s1 → s_W G mL_law 20 C S P 2164 [some (.ref 1000000), some (.ref 0), some (.ref 212), some (.ref 234), some (.ref 235), some (.int (nI i)), none, none, none] [] s1) : s_W G mL_law 20 (C + 3) (S + 18) P 744 [some (.ref 1000000), some (.ref 0), some (.ref 212), some (.ref 234), some (.ref 235), some (.int (nI i)), none, none, none] [] s := by
  obtain ⟨hz, hZ, hM, hO⟩ := hI
  refine r_aload_n dL_law_744 rfl rfl ?_
  refine r_aload_n dL_law_745 rfl rfl ?_
  refine r_iload dL_law_746 rfl ?_
  refine n_const 1 dL_law_748 (by decide) ?_
  refine n_add dL_law_749 ?_
  refine r_sld dL_law_750 (n_bd (by omega) (by omega)) ?_
  refine r_aload_n dL_law_751 rfl rfl ?_
  refine s_SI mL_count [.ref 0, .int (G.2.2.2 (nI (i + 1)).toNatClampNeg), .ref 234] dL_law_752 okL_count lL_148 npL_count (by omega) (by omega) (by omega) (Nat.le_of_ble_eq_true rfl) (Nat.le_of_ble_eq_true rfl) rfl (lw_count hz hZ) (fun y1 s1 hq => ?_)
  obtain ⟨rfl, h4, hv, hZ1, hf1⟩ := hq
  obtain ⟨hM1, hO1⟩ := m_Z_fr hM hO hf1
  refine r_istore dL_law_755 (by decide) rfl ?_
  refine r_aload_n dL_law_757 rfl rfl ?_
  refine r_aload_n dL_law_758 rfl rfl ?_
  refine r_iload dL_law_759 rfl ?_
  refine n_const 1 dL_law_761 (by decide) ?_
  refine n_add dL_law_762 ?_
  refine r_sld dL_law_763 (n_bd (by omega) (by omega)) ?_
  refine s_VI mX12_count [.int (G.2.2.2 (nI (i + 1)).toNatClampNeg)] dL_law_764 okX12_count lL_150 npX12_count lysX12 rfl (by omega) (by omega) (by omega) (Nat.le_of_ble_eq_true rfl) (Nat.le_of_ble_eq_true rfl) rfl (m_count hz hM1 hO1) (fun y2 s2 hq => ?_)
  obtain ⟨hy, ht, hZ2, hf2⟩ := hq
  refine r_istore dL_law_767 (by decide) rfl ?_
  refine r_aload_n dL_law_769 rfl rfl ?_
  refine s_VI mX12_thrown [] dL_law_770 okX12_thrown lL_124 npX12_thrown lysX12 rfl (by omega) (by omega) (by omega) (Nat.le_of_ble_eq_true rfl) (Nat.le_of_ble_eq_true rfl) rfl (m_thrown ht) (fun y3 s3 hq => ?_)
  obtain ⟨e9, rfl⟩ := hq
  replace e9 := e9.symm
  subst e9
  refine r_iload dL_law_773 rfl ?_
  refine r_icmp_eq (tgt := 780) dL_law_775 (by decide) (fun c9 => ?_) (fun c9 => absurd rfl c9)
  refine r_iload dL_law_780 rfl ?_
  refine n_ifne (tgt := 797) dL_law_782 (by decide) (by omega) (fun c9 => ?_) (fun c9 => ?_)
  · refine r_goto (tgt := 2164) dL_law_797 (by decide) ?_
    refine s_mono (d := 20) (C := C) (S := S) (Nat.le_refl _) (by omega) (by omega) (fun _ _ q => q) ?_
    refine q_W_L (L := [some (.ref 1000000), some (.ref 0), some (.ref 212), some (.ref 234), some (.ref 235), some (.int (nI i)), none, none, none]) ?_ (K _ _ (j_end (zA_count hz) hZ1 hZ2 hf2))
    exact j_L
  · refine r_aload_n dL_law_785 rfl rfl ?_
    refine n_const 0 dL_law_786 (by decide) ?_
    refine s_lald dL_law_787 ?_
    refine r_iload dL_law_788 rfl ?_
    refine r_i2l dL_law_790 rfl ?_
    refine r_lcmp dL_law_791 ?_
    have e8 : s2 234 0 = y2 := by rw [hf2 234 (by omega), hv c9, hy c9]
    rw [e8, lg_cmp_rf]
    refine r_if_eq (tgt := 797) dL_law_792 (by decide) (fun c8 => ?_) (fun c8 => absurd rfl c8)
    refine r_goto (tgt := 2164) dL_law_797 (by decide) ?_
    refine s_mono (d := 20) (C := C) (S := S) (Nat.le_refl _) (by omega) (by omega) (fun _ _ q => q) ?_
    refine q_W_L (L := [some (.ref 1000000), some (.ref 0), some (.ref 212), some (.ref 234), some (.ref 235), some (.int (nI i)), none, none, none]) ?_ (K _ _ (j_end (zA_count hz) hZ1 hZ2 hf2))
    exact j_L
set_option maxRecDepth 20000 in
set_option maxHeartbeats 1000000 in
theorem lc_8 {G : q_G} {s : s_T} {z : z_T} {i C S : Nat} {P : q_R → s_T → Prop} (hI : j_I z s) (hi : i + 5 ≤ G.2.2.1) (hG : G.2.2.1 ≤ 2560) (K : ∀ z1 s1, j_I z1 s1 → s_W G mL_law 20 C S P 2164 [some (.ref 1000000), some (.ref 0), some (.ref 212), some (.ref 234), some (.ref 235), some (.int (nI i)), none, none, none] [] s1) : s_W G mL_law 20 (C + 3) (S + 18) P 800 [some (.ref 1000000), some (.ref 0), some (.ref 212), some (.ref 234), some (.ref 235), some (.int (nI i)), none, none, none] [] s := by
  obtain ⟨hz, hZ, hM, hO⟩ := hI
  refine r_aload_n dL_law_800 rfl rfl ?_
  refine r_aload_n dL_law_801 rfl rfl ?_
  refine r_iload dL_law_802 rfl ?_
  refine n_const 1 dL_law_804 (by decide) ?_
  refine n_add dL_law_805 ?_
  refine r_sld dL_law_806 (n_bd (by omega) (by omega)) ?_
  refine r_aload_n dL_law_807 rfl rfl ?_
  refine r_iload dL_law_808 rfl ?_
  refine n_const 2 dL_law_810 (by decide) ?_
  refine n_add dL_law_811 ?_
  refine r_sld dL_law_812 (n_bd (by omega) (by omega)) ?_
  refine r_aload_n dL_law_813 rfl rfl ?_
  refine s_SI mL_property [.ref 0, .int (G.2.2.2 (nI (i + 1)).toNatClampNeg), .int (G.2.2.2 (nI (i + 2)).toNatClampNeg), .ref 234] dL_law_814 okL_property lL_151 npL_property (by omega) (by omega) (by omega) (Nat.le_of_ble_eq_true rfl) (Nat.le_of_ble_eq_true rfl) rfl (lw_property hz hZ) (fun y1 s1 hq => ?_)
  obtain ⟨rfl, h4, hv, hZ1, hf1⟩ := hq
  obtain ⟨hM1, hO1⟩ := m_Z_fr hM hO hf1
  refine r_istore dL_law_817 (by decide) rfl ?_
  refine r_aload_n dL_law_819 rfl rfl ?_
  refine r_aload_n dL_law_820 rfl rfl ?_
  refine r_iload dL_law_821 rfl ?_
  refine n_const 1 dL_law_823 (by decide) ?_
  refine n_add dL_law_824 ?_
  refine r_sld dL_law_825 (n_bd (by omega) (by omega)) ?_
  refine r_aload_n dL_law_826 rfl rfl ?_
  refine r_iload dL_law_827 rfl ?_
  refine n_const 2 dL_law_829 (by decide) ?_
  refine n_add dL_law_830 ?_
  refine r_sld dL_law_831 (n_bd (by omega) (by omega)) ?_
  refine s_VI mX12_property [.int (G.2.2.2 (nI (i + 1)).toNatClampNeg), .int (G.2.2.2 (nI (i + 2)).toNatClampNeg)] dL_law_832 okX12_property lL_153 npX12_property lysX12 rfl (by omega) (by omega) (by omega) (Nat.le_of_ble_eq_true rfl) (Nat.le_of_ble_eq_true rfl) rfl (m_property hz hM1 hO1) (fun y2 s2 hq => ?_)
  obtain ⟨hy, ht, hZ2, hf2⟩ := hq
  refine r_istore dL_law_835 (by decide) rfl ?_
  refine r_aload_n dL_law_837 rfl rfl ?_
  refine s_VI mX12_thrown [] dL_law_838 okX12_thrown lL_124 npX12_thrown lysX12 rfl (by omega) (by omega) (by omega) (Nat.le_of_ble_eq_true rfl) (Nat.le_of_ble_eq_true rfl) rfl (m_thrown ht) (fun y3 s3 hq => ?_)
  obtain ⟨e9, rfl⟩ := hq
  replace e9 := e9.symm
  subst e9
  refine r_iload dL_law_841 rfl ?_
  refine r_icmp_eq (tgt := 848) dL_law_843 (by decide) (fun c9 => ?_) (fun c9 => absurd rfl c9)
  refine r_iload dL_law_848 rfl ?_
  refine n_ifne (tgt := 865) dL_law_850 (by decide) (by omega) (fun c9 => ?_) (fun c9 => ?_)
  · refine r_goto (tgt := 2164) dL_law_865 (by decide) ?_
    refine s_mono (d := 20) (C := C) (S := S) (Nat.le_refl _) (by omega) (by omega) (fun _ _ q => q) ?_
    refine q_W_L (L := [some (.ref 1000000), some (.ref 0), some (.ref 212), some (.ref 234), some (.ref 235), some (.int (nI i)), none, none, none]) ?_ (K _ _ (j_end (zA_property hz) hZ1 hZ2 hf2))
    exact j_L
  · refine r_aload_n dL_law_853 rfl rfl ?_
    refine n_const 0 dL_law_854 (by decide) ?_
    refine s_lald dL_law_855 ?_
    refine r_iload dL_law_856 rfl ?_
    refine r_i2l dL_law_858 rfl ?_
    refine r_lcmp dL_law_859 ?_
    have e8 : s2 234 0 = y2 := by rw [hf2 234 (by omega), hv c9, hy c9]
    rw [e8, lg_cmp_rf]
    refine r_if_eq (tgt := 865) dL_law_860 (by decide) (fun c8 => ?_) (fun c8 => absurd rfl c8)
    refine r_goto (tgt := 2164) dL_law_865 (by decide) ?_
    refine s_mono (d := 20) (C := C) (S := S) (Nat.le_refl _) (by omega) (by omega) (fun _ _ q => q) ?_
    refine q_W_L (L := [some (.ref 1000000), some (.ref 0), some (.ref 212), some (.ref 234), some (.ref 235), some (.int (nI i)), none, none, none]) ?_ (K _ _ (j_end (zA_property hz) hZ1 hZ2 hf2))
    exact j_L
set_option maxRecDepth 20000 in
set_option maxHeartbeats 1000000 in
theorem lc_9 {G : q_G} {s : s_T} {z : z_T} {i C S : Nat} {P : q_R → s_T → Prop} (hI : j_I z s) (hi : i + 5 ≤ G.2.2.1) (hG : G.2.2.1 ≤ 2560) (K : ∀ z1 s1, j_I z1 s1 → s_W G mL_law 20 C S P 2164 [some (.ref 1000000), some (.ref 0), some (.ref 212), some (.ref 234), some (.ref 235), some (.int (nI i)), none, none, none] [] s1) : s_W G mL_law 20 (C + 3) (S + 18) P 868 [some (.ref 1000000), some (.ref 0), some (.ref 212), some (.ref 234), some (.ref 235), some (.int (nI i)), none, none, none] [] s := by
  obtain ⟨hz, hZ, hM, hO⟩ := hI
  refine r_aload_n dL_law_868 rfl rfl ?_
  refine r_aload_n dL_law_869 rfl rfl ?_
  refine r_iload dL_law_870 rfl ?_
  refine n_const 1 dL_law_872 (by decide) ?_
  refine n_add dL_law_873 ?_
  refine r_sld dL_law_874 (n_bd (by omega) (by omega)) ?_
  refine r_aload_n dL_law_875 rfl rfl ?_
  refine r_iload dL_law_876 rfl ?_
  refine n_const 2 dL_law_878 (by decide) ?_
  refine n_add dL_law_879 ?_
  refine r_sld dL_law_880 (n_bd (by omega) (by omega)) ?_
  refine r_aload_n dL_law_881 rfl rfl ?_
  refine s_SI mL_order [.ref 0, .int (G.2.2.2 (nI (i + 1)).toNatClampNeg), .int (G.2.2.2 (nI (i + 2)).toNatClampNeg), .ref 234] dL_law_882 okL_order lL_154 npL_order (by omega) (by omega) (by omega) (Nat.le_of_ble_eq_true rfl) (Nat.le_of_ble_eq_true rfl) rfl (lw_order hz hZ) (fun y1 s1 hq => ?_)
  obtain ⟨rfl, h4, hv, hZ1, hf1⟩ := hq
  obtain ⟨hM1, hO1⟩ := m_Z_fr hM hO hf1
  refine r_istore dL_law_885 (by decide) rfl ?_
  refine r_aload_n dL_law_887 rfl rfl ?_
  refine r_aload_n dL_law_888 rfl rfl ?_
  refine r_iload dL_law_889 rfl ?_
  refine n_const 1 dL_law_891 (by decide) ?_
  refine n_add dL_law_892 ?_
  refine r_sld dL_law_893 (n_bd (by omega) (by omega)) ?_
  refine r_aload_n dL_law_894 rfl rfl ?_
  refine r_iload dL_law_895 rfl ?_
  refine n_const 2 dL_law_897 (by decide) ?_
  refine n_add dL_law_898 ?_
  refine r_sld dL_law_899 (n_bd (by omega) (by omega)) ?_
  refine s_VI mX12_order [.int (G.2.2.2 (nI (i + 1)).toNatClampNeg), .int (G.2.2.2 (nI (i + 2)).toNatClampNeg)] dL_law_900 okX12_order lL_156 npX12_order lysX12 rfl (by omega) (by omega) (by omega) (Nat.le_of_ble_eq_true rfl) (Nat.le_of_ble_eq_true rfl) rfl (m_order hz hM1 hO1) (fun y2 s2 hq => ?_)
  obtain ⟨hy, ht, hZ2, hf2⟩ := hq
  refine r_istore dL_law_903 (by decide) rfl ?_
  refine r_aload_n dL_law_905 rfl rfl ?_
  refine s_VI mX12_thrown [] dL_law_906 okX12_thrown lL_124 npX12_thrown lysX12 rfl (by omega) (by omega) (by omega) (Nat.le_of_ble_eq_true rfl) (Nat.le_of_ble_eq_true rfl) rfl (m_thrown ht) (fun y3 s3 hq => ?_)
  obtain ⟨e9, rfl⟩ := hq
  replace e9 := e9.symm
  subst e9
  refine r_iload dL_law_909 rfl ?_
  refine r_icmp_eq (tgt := 916) dL_law_911 (by decide) (fun c9 => ?_) (fun c9 => absurd rfl c9)
  refine r_iload dL_law_916 rfl ?_
  refine n_ifne (tgt := 933) dL_law_918 (by decide) (by omega) (fun c9 => ?_) (fun c9 => ?_)
  · refine r_goto (tgt := 2164) dL_law_933 (by decide) ?_
    refine s_mono (d := 20) (C := C) (S := S) (Nat.le_refl _) (by omega) (by omega) (fun _ _ q => q) ?_
    refine q_W_L (L := [some (.ref 1000000), some (.ref 0), some (.ref 212), some (.ref 234), some (.ref 235), some (.int (nI i)), none, none, none]) ?_ (K _ _ (j_end (zA_order hz) hZ1 hZ2 hf2))
    exact j_L
  · refine r_aload_n dL_law_921 rfl rfl ?_
    refine n_const 0 dL_law_922 (by decide) ?_
    refine s_lald dL_law_923 ?_
    refine r_iload dL_law_924 rfl ?_
    refine r_i2l dL_law_926 rfl ?_
    refine r_lcmp dL_law_927 ?_
    have e8 : s2 234 0 = y2 := by rw [hf2 234 (by omega), hv c9, hy c9]
    rw [e8, lg_cmp_rf]
    refine r_if_eq (tgt := 933) dL_law_928 (by decide) (fun c8 => ?_) (fun c8 => absurd rfl c8)
    refine r_goto (tgt := 2164) dL_law_933 (by decide) ?_
    refine s_mono (d := 20) (C := C) (S := S) (Nat.le_refl _) (by omega) (by omega) (fun _ _ q => q) ?_
    refine q_W_L (L := [some (.ref 1000000), some (.ref 0), some (.ref 212), some (.ref 234), some (.ref 235), some (.int (nI i)), none, none, none]) ?_ (K _ _ (j_end (zA_order hz) hZ1 hZ2 hf2))
    exact j_L
set_option maxRecDepth 20000 in
set_option maxHeartbeats 1000000 in
theorem lc_10 {G : q_G} {s : s_T} {z : z_T} {i C S : Nat} {P : q_R → s_T → Prop} (hI : j_I z s) (hi : i + 5 ≤ G.2.2.1) (hG : G.2.2.1 ≤ 2560) (K : ∀ z1 s1, j_I z1 s1 → s_W G mL_law 20 C S P 2164 [some (.ref 1000000), some (.ref 0), some (.ref 212), some (.ref 234), some (.ref 235), some (.int (nI i)), none, none, none] [] s1) : s_W G mL_law 20 (C + 3) (S + 18) P 936 [some (.ref 1000000), some (.ref 0), some (.ref 212), some (.ref 234), some (.ref 235), some (.int (nI i)), none, none, none] [] s := by
  obtain ⟨hz, hZ, hM, hO⟩ := hI
  refine r_aload_n dL_law_936 rfl rfl ?_
  refine r_aload_n dL_law_937 rfl rfl ?_
  refine r_iload dL_law_938 rfl ?_
  refine n_const 1 dL_law_940 (by decide) ?_
  refine n_add dL_law_941 ?_
  refine r_sld dL_law_942 (n_bd (by omega) (by omega)) ?_
  refine r_aload_n dL_law_943 rfl rfl ?_
  refine r_iload dL_law_944 rfl ?_
  refine n_const 2 dL_law_946 (by decide) ?_
  refine n_add dL_law_947 ?_
  refine r_sld dL_law_948 (n_bd (by omega) (by omega)) ?_
  refine r_aload_n dL_law_949 rfl rfl ?_
  refine s_SI mL_time [.ref 0, .int (G.2.2.2 (nI (i + 1)).toNatClampNeg), .int (G.2.2.2 (nI (i + 2)).toNatClampNeg), .ref 234] dL_law_950 okL_time lL_157 npL_time (by omega) (by omega) (by omega) (Nat.le_of_ble_eq_true rfl) (Nat.le_of_ble_eq_true rfl) rfl (lw_time hz hZ) (fun y1 s1 hq => ?_)
  obtain ⟨rfl, h4, hv, hZ1, hf1⟩ := hq
  obtain ⟨hM1, hO1⟩ := m_Z_fr hM hO hf1
  refine r_istore dL_law_953 (by decide) rfl ?_
  refine r_aload_n dL_law_955 rfl rfl ?_
  refine r_aload_n dL_law_956 rfl rfl ?_
  refine r_iload dL_law_957 rfl ?_
  refine n_const 1 dL_law_959 (by decide) ?_
  refine n_add dL_law_960 ?_
  refine r_sld dL_law_961 (n_bd (by omega) (by omega)) ?_
  refine r_aload_n dL_law_962 rfl rfl ?_
  refine r_iload dL_law_963 rfl ?_
  refine n_const 2 dL_law_965 (by decide) ?_
  refine n_add dL_law_966 ?_
  refine r_sld dL_law_967 (n_bd (by omega) (by omega)) ?_
  refine s_VI mX12_time [.int (G.2.2.2 (nI (i + 1)).toNatClampNeg), .int (G.2.2.2 (nI (i + 2)).toNatClampNeg)] dL_law_968 okX12_time lL_159 npX12_time lysX12 rfl (by omega) (by omega) (by omega) (Nat.le_of_ble_eq_true rfl) (Nat.le_of_ble_eq_true rfl) rfl (m_time hz hM1 hO1) (fun y2 s2 hq => ?_)
  obtain ⟨hy, ht, hZ2, hf2⟩ := hq
  refine r_istore dL_law_971 (by decide) rfl ?_
  refine r_aload_n dL_law_973 rfl rfl ?_
  refine s_VI mX12_thrown [] dL_law_974 okX12_thrown lL_124 npX12_thrown lysX12 rfl (by omega) (by omega) (by omega) (Nat.le_of_ble_eq_true rfl) (Nat.le_of_ble_eq_true rfl) rfl (m_thrown ht) (fun y3 s3 hq => ?_)
  obtain ⟨e9, rfl⟩ := hq
  replace e9 := e9.symm
  subst e9
  refine r_iload dL_law_977 rfl ?_
  refine r_icmp_eq (tgt := 984) dL_law_979 (by decide) (fun c9 => ?_) (fun c9 => absurd rfl c9)
  refine r_iload dL_law_984 rfl ?_
  refine n_ifne (tgt := 1001) dL_law_986 (by decide) (by omega) (fun c9 => ?_) (fun c9 => ?_)
  · refine r_goto (tgt := 2164) dL_law_1001 (by decide) ?_
    refine s_mono (d := 20) (C := C) (S := S) (Nat.le_refl _) (by omega) (by omega) (fun _ _ q => q) ?_
    refine q_W_L (L := [some (.ref 1000000), some (.ref 0), some (.ref 212), some (.ref 234), some (.ref 235), some (.int (nI i)), none, none, none]) ?_ (K _ _ (j_end (zA_time hz) hZ1 hZ2 hf2))
    exact j_L
  · refine r_aload_n dL_law_989 rfl rfl ?_
    refine n_const 0 dL_law_990 (by decide) ?_
    refine s_lald dL_law_991 ?_
    refine r_iload dL_law_992 rfl ?_
    refine r_i2l dL_law_994 rfl ?_
    refine r_lcmp dL_law_995 ?_
    have e8 : s2 234 0 = y2 := by rw [hf2 234 (by omega), hv c9, hy c9]
    rw [e8, lg_cmp_rf]
    refine r_if_eq (tgt := 1001) dL_law_996 (by decide) (fun c8 => ?_) (fun c8 => absurd rfl c8)
    refine r_goto (tgt := 2164) dL_law_1001 (by decide) ?_
    refine s_mono (d := 20) (C := C) (S := S) (Nat.le_refl _) (by omega) (by omega) (fun _ _ q => q) ?_
    refine q_W_L (L := [some (.ref 1000000), some (.ref 0), some (.ref 212), some (.ref 234), some (.ref 235), some (.int (nI i)), none, none, none]) ?_ (K _ _ (j_end (zA_time hz) hZ1 hZ2 hf2))
    exact j_L
set_option maxRecDepth 20000 in
set_option maxHeartbeats 1000000 in
theorem lc_11 {G : q_G} {s : s_T} {z : z_T} {i C S : Nat} {P : q_R → s_T → Prop} (hI : j_I z s) (hi : i + 5 ≤ G.2.2.1) (hG : G.2.2.1 ≤ 2560) (K : ∀ z1 s1, j_I z1 s1 → s_W G mL_law 20 C S P 2164 [some (.ref 1000000), some (.ref 0), some (.ref 212), some (.ref 234), some (.ref 235), some (.int (nI i)), none, none, none] [] s1) : s_W G mL_law 20 (C + 3) (S + 18) P 1004 [some (.ref 1000000), some (.ref 0), some (.ref 212), some (.ref 234), some (.ref 235), some (.int (nI i)), none, none, none] [] s := by
  obtain ⟨hz, hZ, hM, hO⟩ := hI
  refine r_aload_n dL_law_1004 rfl rfl ?_
  refine s_VI mX11_makespan [] dL_law_1005 okX11_makespan lL_160 npX11_makespan lysX11 rfl (by omega) (by omega) (by omega) (Nat.le_of_ble_eq_true rfl) (Nat.le_of_ble_eq_true rfl) rfl (c_P0 rfl (c_makespan hz hZ)) (fun y1 s1 hq => ?_)
  obtain ⟨rfl, hZ1, hf1⟩ := hq
  obtain ⟨hM1, hO1⟩ := m_Z_fr (s1 := s1) hM hO (fun k h1 h2 => hf1 k (by omega))
  refine r_aload_n dL_law_1008 rfl rfl ?_
  refine s_VI mX12_makespan [] dL_law_1009 okX12_makespan lL_163 npX12_makespan lysX12 rfl (by omega) (by omega) (by omega) (Nat.le_of_ble_eq_true rfl) (Nat.le_of_ble_eq_true rfl) rfl (m_makespan hz hM1 hO1) (fun y2 s2 hq => ?_)
  obtain ⟨hy, ht, hZ2, hf2⟩ := hq
  refine r_icmp_eq (tgt := 2164) dL_law_1012 (by decide) (fun c9 => ?_) (fun c9 => absurd (hy rfl).symm c9)
  refine s_mono (d := 20) (C := C) (S := S) (Nat.le_refl _) (by omega) (by omega) (fun _ _ q => q) ?_
  refine q_W_L (L := [some (.ref 1000000), some (.ref 0), some (.ref 212), some (.ref 234), some (.ref 235), some (.int (nI i)), none, none, none]) ?_ (K _ _ (j_end (zA_makespan hz) hZ1 hZ2 hf2))
  exact j_L
set_option maxRecDepth 20000 in
set_option maxHeartbeats 1000000 in
theorem lc_12 {G : q_G} {s : s_T} {z : z_T} {i C S : Nat} {P : q_R → s_T → Prop} (hI : j_I z s) (hi : i + 5 ≤ G.2.2.1) (hG : G.2.2.1 ≤ 2560) (K : ∀ z1 s1, j_I z1 s1 → s_W G mL_law 20 C S P 2164 [some (.ref 1000000), some (.ref 0), some (.ref 212), some (.ref 234), some (.ref 235), some (.int (nI i)), none, none, none] [] s1) : s_W G mL_law 20 (C + 3) (S + 18) P 1017 [some (.ref 1000000), some (.ref 0), some (.ref 212), some (.ref 234), some (.ref 235), some (.int (nI i)), none, none, none] [] s := by
  obtain ⟨hz, hZ, hM, hO⟩ := hI
  refine r_aload_n dL_law_1017 rfl rfl ?_
  refine r_aload_n dL_law_1018 rfl rfl ?_
  refine r_iload dL_law_1019 rfl ?_
  refine n_const 1 dL_law_1021 (by decide) ?_
  refine n_add dL_law_1022 ?_
  refine r_sld dL_law_1023 (n_bd (by omega) (by omega)) ?_
  refine r_aload_n dL_law_1024 rfl rfl ?_
  refine s_SI mL_slack [.ref 0, .int (G.2.2.2 (nI (i + 1)).toNatClampNeg), .ref 234] dL_law_1025 okL_slack lL_164 npL_slack (by omega) (by omega) (by omega) (Nat.le_of_ble_eq_true rfl) (Nat.le_of_ble_eq_true rfl) rfl (lw_slack hz hZ) (fun y1 s1 hq => ?_)
  obtain ⟨rfl, h4, hv, hZ1, hf1⟩ := hq
  obtain ⟨hM1, hO1⟩ := m_Z_fr hM hO hf1
  refine r_istore dL_law_1028 (by decide) rfl ?_
  refine r_aload_n dL_law_1030 rfl rfl ?_
  refine r_aload_n dL_law_1031 rfl rfl ?_
  refine r_iload dL_law_1032 rfl ?_
  refine n_const 1 dL_law_1034 (by decide) ?_
  refine n_add dL_law_1035 ?_
  refine r_sld dL_law_1036 (n_bd (by omega) (by omega)) ?_
  refine s_VI mX12_slack [.int (G.2.2.2 (nI (i + 1)).toNatClampNeg)] dL_law_1037 okX12_slack lL_166 npX12_slack lysX12 rfl (by omega) (by omega) (by omega) (Nat.le_of_ble_eq_true rfl) (Nat.le_of_ble_eq_true rfl) rfl (m_slack hz hM1 hO1) (fun y2 s2 hq => ?_)
  obtain ⟨hy, ht, hZ2, hf2⟩ := hq
  refine r_istore dL_law_1040 (by decide) rfl ?_
  refine r_aload_n dL_law_1042 rfl rfl ?_
  refine s_VI mX12_thrown [] dL_law_1043 okX12_thrown lL_124 npX12_thrown lysX12 rfl (by omega) (by omega) (by omega) (Nat.le_of_ble_eq_true rfl) (Nat.le_of_ble_eq_true rfl) rfl (m_thrown ht) (fun y3 s3 hq => ?_)
  obtain ⟨e9, rfl⟩ := hq
  replace e9 := e9.symm
  subst e9
  refine r_iload dL_law_1046 rfl ?_
  refine r_icmp_eq (tgt := 1053) dL_law_1048 (by decide) (fun c9 => ?_) (fun c9 => absurd rfl c9)
  refine r_iload dL_law_1053 rfl ?_
  refine n_ifne (tgt := 1070) dL_law_1055 (by decide) (by omega) (fun c9 => ?_) (fun c9 => ?_)
  · refine r_goto (tgt := 2164) dL_law_1070 (by decide) ?_
    refine s_mono (d := 20) (C := C) (S := S) (Nat.le_refl _) (by omega) (by omega) (fun _ _ q => q) ?_
    refine q_W_L (L := [some (.ref 1000000), some (.ref 0), some (.ref 212), some (.ref 234), some (.ref 235), some (.int (nI i)), none, none, none]) ?_ (K _ _ (j_end (zA_slack hz) hZ1 hZ2 hf2))
    exact j_L
  · refine r_aload_n dL_law_1058 rfl rfl ?_
    refine n_const 0 dL_law_1059 (by decide) ?_
    refine s_lald dL_law_1060 ?_
    refine r_iload dL_law_1061 rfl ?_
    refine r_i2l dL_law_1063 rfl ?_
    refine r_lcmp dL_law_1064 ?_
    have e8 : s2 234 0 = y2 := by rw [hf2 234 (by omega), hv c9, hy c9]
    rw [e8, lg_cmp_rf]
    refine r_if_eq (tgt := 1070) dL_law_1065 (by decide) (fun c8 => ?_) (fun c8 => absurd rfl c8)
    refine r_goto (tgt := 2164) dL_law_1070 (by decide) ?_
    refine s_mono (d := 20) (C := C) (S := S) (Nat.le_refl _) (by omega) (by omega) (fun _ _ q => q) ?_
    refine q_W_L (L := [some (.ref 1000000), some (.ref 0), some (.ref 212), some (.ref 234), some (.ref 235), some (.int (nI i)), none, none, none]) ?_ (K _ _ (j_end (zA_slack hz) hZ1 hZ2 hf2))
    exact j_L
set_option maxRecDepth 20000 in
set_option maxHeartbeats 1000000 in
theorem lc_13 {G : q_G} {s : s_T} {z : z_T} {i C S : Nat} {P : q_R → s_T → Prop} (hI : j_I z s) (hi : i + 5 ≤ G.2.2.1) (hG : G.2.2.1 ≤ 2560) (K : ∀ z1 s1, j_I z1 s1 → s_W G mL_law 20 C S P 2164 [some (.ref 1000000), some (.ref 0), some (.ref 212), some (.ref 234), some (.ref 235), some (.int (nI i)), none, none, none] [] s1) : s_W G mL_law 20 (C + 3) (S + 18) P 1073 [some (.ref 1000000), some (.ref 0), some (.ref 212), some (.ref 234), some (.ref 235), some (.int (nI i)), none, none, none] [] s := by
  obtain ⟨hz, hZ, hM, hO⟩ := hI
  refine r_aload_n dL_law_1073 rfl rfl ?_
  refine r_aload_n dL_law_1074 rfl rfl ?_
  refine r_iload dL_law_1075 rfl ?_
  refine n_const 1 dL_law_1077 (by decide) ?_
  refine n_add dL_law_1078 ?_
  refine r_sld dL_law_1079 (n_bd (by omega) (by omega)) ?_
  refine r_aload_n dL_law_1080 rfl rfl ?_
  refine s_SI mL_completion [.ref 0, .int (G.2.2.2 (nI (i + 1)).toNatClampNeg), .ref 234] dL_law_1081 okL_completion lL_167 npL_completion (by omega) (by omega) (by omega) (Nat.le_of_ble_eq_true rfl) (Nat.le_of_ble_eq_true rfl) rfl (lw_completion hz hZ) (fun y1 s1 hq => ?_)
  obtain ⟨rfl, h4, hv, hZ1, hf1⟩ := hq
  obtain ⟨hM1, hO1⟩ := m_Z_fr hM hO hf1
  refine r_istore dL_law_1084 (by decide) rfl ?_
  refine r_aload_n dL_law_1086 rfl rfl ?_
  refine r_aload_n dL_law_1087 rfl rfl ?_
  refine r_iload dL_law_1088 rfl ?_
  refine n_const 1 dL_law_1090 (by decide) ?_
  refine n_add dL_law_1091 ?_
  refine r_sld dL_law_1092 (n_bd (by omega) (by omega)) ?_
  refine s_VI mX12_completion [.int (G.2.2.2 (nI (i + 1)).toNatClampNeg)] dL_law_1093 okX12_completion lL_169 npX12_completion lysX12 rfl (by omega) (by omega) (by omega) (Nat.le_of_ble_eq_true rfl) (Nat.le_of_ble_eq_true rfl) rfl (m_completion hz hM1 hO1) (fun y2 s2 hq => ?_)
  obtain ⟨hy, ht, hZ2, hf2⟩ := hq
  refine r_istore dL_law_1096 (by decide) rfl ?_
  refine r_aload_n dL_law_1098 rfl rfl ?_
  refine s_VI mX12_thrown [] dL_law_1099 okX12_thrown lL_124 npX12_thrown lysX12 rfl (by omega) (by omega) (by omega) (Nat.le_of_ble_eq_true rfl) (Nat.le_of_ble_eq_true rfl) rfl (m_thrown ht) (fun y3 s3 hq => ?_)
  obtain ⟨e9, rfl⟩ := hq
  replace e9 := e9.symm
  subst e9
  refine r_iload dL_law_1102 rfl ?_
  refine r_icmp_eq (tgt := 1109) dL_law_1104 (by decide) (fun c9 => ?_) (fun c9 => absurd rfl c9)
  refine r_iload dL_law_1109 rfl ?_
  refine n_ifne (tgt := 1126) dL_law_1111 (by decide) (by omega) (fun c9 => ?_) (fun c9 => ?_)
  · refine r_goto (tgt := 2164) dL_law_1126 (by decide) ?_
    refine s_mono (d := 20) (C := C) (S := S) (Nat.le_refl _) (by omega) (by omega) (fun _ _ q => q) ?_
    refine q_W_L (L := [some (.ref 1000000), some (.ref 0), some (.ref 212), some (.ref 234), some (.ref 235), some (.int (nI i)), none, none, none]) ?_ (K _ _ (j_end (zA_completion hz) hZ1 hZ2 hf2))
    exact j_L
  · refine r_aload_n dL_law_1114 rfl rfl ?_
    refine n_const 0 dL_law_1115 (by decide) ?_
    refine s_lald dL_law_1116 ?_
    refine r_iload dL_law_1117 rfl ?_
    refine r_i2l dL_law_1119 rfl ?_
    refine r_lcmp dL_law_1120 ?_
    have e8 : s2 234 0 = y2 := by rw [hf2 234 (by omega), hv c9, hy c9]
    rw [e8, lg_cmp_rf]
    refine r_if_eq (tgt := 1126) dL_law_1121 (by decide) (fun c8 => ?_) (fun c8 => absurd rfl c8)
    refine r_goto (tgt := 2164) dL_law_1126 (by decide) ?_
    refine s_mono (d := 20) (C := C) (S := S) (Nat.le_refl _) (by omega) (by omega) (fun _ _ q => q) ?_
    refine q_W_L (L := [some (.ref 1000000), some (.ref 0), some (.ref 212), some (.ref 234), some (.ref 235), some (.int (nI i)), none, none, none]) ?_ (K _ _ (j_end (zA_completion hz) hZ1 hZ2 hf2))
    exact j_L
set_option maxRecDepth 20000 in
set_option maxHeartbeats 1000000 in
theorem lc_14 {G : q_G} {s : s_T} {z : z_T} {i C S : Nat} {P : q_R → s_T → Prop} (hI : j_I z s) (hi : i + 5 ≤ G.2.2.1) (hG : G.2.2.1 ≤ 2560) (K : ∀ z1 s1, j_I z1 s1 → s_W G mL_law 20 C S P 2164 [some (.ref 1000000), some (.ref 0), some (.ref 212), some (.ref 234), some (.ref 235), some (.int (nI i)), none, none, none] [] s1) : s_W G mL_law 20 (C + 3) (S + 18) P 1129 [some (.ref 1000000), some (.ref 0), some (.ref 212), some (.ref 234), some (.ref 235), some (.int (nI i)), none, none, none] [] s := by
  obtain ⟨hz, hZ, hM, hO⟩ := hI
  refine r_aload_n dL_law_1129 rfl rfl ?_
  refine r_aload_n dL_law_1130 rfl rfl ?_
  refine r_iload dL_law_1131 rfl ?_
  refine n_const 1 dL_law_1133 (by decide) ?_
  refine n_add dL_law_1134 ?_
  refine r_sld dL_law_1135 (n_bd (by omega) (by omega)) ?_
  refine r_aload_n dL_law_1136 rfl rfl ?_
  refine s_SI mL_objective [.ref 0, .int (G.2.2.2 (nI (i + 1)).toNatClampNeg), .ref 234] dL_law_1137 okL_objective lL_170 npL_objective (by omega) (by omega) (by omega) (Nat.le_of_ble_eq_true rfl) (Nat.le_of_ble_eq_true rfl) rfl (lw_objective hz hZ) (fun y1 s1 hq => ?_)
  obtain ⟨rfl, h4, hv, hZ1, hf1⟩ := hq
  obtain ⟨hM1, hO1⟩ := m_Z_fr hM hO hf1
  refine r_istore dL_law_1140 (by decide) rfl ?_
  refine r_aload_n dL_law_1142 rfl rfl ?_
  refine r_aload_n dL_law_1143 rfl rfl ?_
  refine r_iload dL_law_1144 rfl ?_
  refine n_const 1 dL_law_1146 (by decide) ?_
  refine n_add dL_law_1147 ?_
  refine r_sld dL_law_1148 (n_bd (by omega) (by omega)) ?_
  refine s_VI mX12_objective [.int (G.2.2.2 (nI (i + 1)).toNatClampNeg)] dL_law_1149 okX12_objective lL_172 npX12_objective lysX12 rfl (by omega) (by omega) (by omega) (Nat.le_of_ble_eq_true rfl) (Nat.le_of_ble_eq_true rfl) rfl (m_objective hz hM1 hO1) (fun y2 s2 hq => ?_)
  obtain ⟨hy, ht, hZ2, hf2⟩ := hq
  refine r_istore dL_law_1152 (by decide) rfl ?_
  refine r_aload_n dL_law_1154 rfl rfl ?_
  refine s_VI mX12_thrown [] dL_law_1155 okX12_thrown lL_124 npX12_thrown lysX12 rfl (by omega) (by omega) (by omega) (Nat.le_of_ble_eq_true rfl) (Nat.le_of_ble_eq_true rfl) rfl (m_thrown ht) (fun y3 s3 hq => ?_)
  obtain ⟨e9, rfl⟩ := hq
  replace e9 := e9.symm
  subst e9
  refine r_iload dL_law_1158 rfl ?_
  refine r_icmp_eq (tgt := 1165) dL_law_1160 (by decide) (fun c9 => ?_) (fun c9 => absurd rfl c9)
  refine r_iload dL_law_1165 rfl ?_
  refine n_ifne (tgt := 1182) dL_law_1167 (by decide) (by omega) (fun c9 => ?_) (fun c9 => ?_)
  · refine r_goto (tgt := 2164) dL_law_1182 (by decide) ?_
    refine s_mono (d := 20) (C := C) (S := S) (Nat.le_refl _) (by omega) (by omega) (fun _ _ q => q) ?_
    refine q_W_L (L := [some (.ref 1000000), some (.ref 0), some (.ref 212), some (.ref 234), some (.ref 235), some (.int (nI i)), none, none, none]) ?_ (K _ _ (j_end (zA_objective hz) hZ1 hZ2 hf2))
    exact j_L
  · refine r_aload_n dL_law_1170 rfl rfl ?_
    refine n_const 0 dL_law_1171 (by decide) ?_
    refine s_lald dL_law_1172 ?_
    refine r_iload dL_law_1173 rfl ?_
    refine r_i2l dL_law_1175 rfl ?_
    refine r_lcmp dL_law_1176 ?_
    have e8 : s2 234 0 = y2 := by rw [hf2 234 (by omega), hv c9, hy c9]
    rw [e8, lg_cmp_rf]
    refine r_if_eq (tgt := 1182) dL_law_1177 (by decide) (fun c8 => ?_) (fun c8 => absurd rfl c8)
    refine r_goto (tgt := 2164) dL_law_1182 (by decide) ?_
    refine s_mono (d := 20) (C := C) (S := S) (Nat.le_refl _) (by omega) (by omega) (fun _ _ q => q) ?_
    refine q_W_L (L := [some (.ref 1000000), some (.ref 0), some (.ref 212), some (.ref 234), some (.ref 235), some (.int (nI i)), none, none, none]) ?_ (K _ _ (j_end (zA_objective hz) hZ1 hZ2 hf2))
    exact j_L
set_option maxRecDepth 20000 in
set_option maxHeartbeats 1000000 in
theorem lc_15 {G : q_G} {s : s_T} {z : z_T} {i C S : Nat} {P : q_R → s_T → Prop} (hI : j_I z s) (hi : i + 5 ≤ G.2.2.1) (hG : G.2.2.1 ≤ 2560) (K : ∀ z1 s1, j_I z1 s1 → s_W G mL_law 20 C S P 2164 [some (.ref 1000000), some (.ref 0), some (.ref 212), some (.ref 234), some (.ref 235), some (.int (nI i)), none, none, none] [] s1) : s_W G mL_law 20 (C + 3) (S + 18) P 1185 [some (.ref 1000000), some (.ref 0), some (.ref 212), some (.ref 234), some (.ref 235), some (.int (nI i)), none, none, none] [] s := by
  obtain ⟨hz, hZ, hM, hO⟩ := hI
  refine r_aload_n dL_law_1185 rfl rfl ?_
  refine r_aload_n dL_law_1186 rfl rfl ?_
  refine r_iload dL_law_1187 rfl ?_
  refine n_const 1 dL_law_1189 (by decide) ?_
  refine n_add dL_law_1190 ?_
  refine r_sld dL_law_1191 (n_bd (by omega) (by omega)) ?_
  refine r_aload dL_law_1192 rfl ?_
  refine s_SI mL_utilization [.ref 0, .int (G.2.2.2 (nI (i + 1)).toNatClampNeg), .ref 235] dL_law_1194 okL_utilization lL_173 npL_utilization (by omega) (by omega) (by omega) (Nat.le_of_ble_eq_true rfl) (Nat.le_of_ble_eq_true rfl) rfl (lw_utilization hz hZ) (fun y1 s1 hq => ?_)
  obtain ⟨rfl, h4, hv, hZ1, hf1⟩ := hq
  obtain ⟨hM1, hO1⟩ := m_Z_fr hM hO hf1
  refine r_istore dL_law_1197 (by decide) rfl ?_
  refine r_aload_n dL_law_1199 rfl rfl ?_
  refine r_aload_n dL_law_1200 rfl rfl ?_
  refine r_iload dL_law_1201 rfl ?_
  refine n_const 1 dL_law_1203 (by decide) ?_
  refine n_add dL_law_1204 ?_
  refine r_sld dL_law_1205 (n_bd (by omega) (by omega)) ?_
  refine s_callV mX12_utilization [.int (G.2.2.2 (nI (i + 1)).toNatClampNeg)] dL_law_1206 okX12_utilization lL_176 npX12_utilization lysX12 rfl (by omega) (by omega) (by omega) (Nat.le_of_ble_eq_true rfl) (Nat.le_of_ble_eq_true rfl) rfl (m_utilization hz hM1 hO1) (fun v9 s2 hq => ?_) (fun E s2 hq => by obtain ⟨x9, e, -⟩ := hq; cases e)
  obtain ⟨x9, e, hy, ht, hZ2, hf2⟩ := hq
  cases e
  show s_W G mL_law 20 _ _ _ _ _ [.double x9] _
  refine r_dstore dL_law_1209 (by decide) rfl ?_
  refine r_aload_n dL_law_1211 rfl rfl ?_
  refine s_VI mX12_thrown [] dL_law_1212 okX12_thrown lL_124 npX12_thrown lysX12 rfl (by omega) (by omega) (by omega) (Nat.le_of_ble_eq_true rfl) (Nat.le_of_ble_eq_true rfl) rfl (m_thrown ht) (fun y3 s3 hq => ?_)
  obtain ⟨e9, rfl⟩ := hq
  replace e9 := e9.symm
  subst e9
  refine r_iload dL_law_1215 rfl ?_
  refine r_icmp_eq (tgt := 1222) dL_law_1217 (by decide) (fun c9 => ?_) (fun c9 => absurd rfl c9)
  refine r_iload dL_law_1222 rfl ?_
  refine n_ifne (tgt := 1259) dL_law_1224 (by decide) (by omega) (fun c9 => ?_) (fun c9 => ?_)
  · refine r_goto (tgt := 2164) dL_law_1259 (by decide) ?_
    refine s_mono (d := 20) (C := C) (S := S) (Nat.le_refl _) (by omega) (by omega) (fun _ _ q => q) ?_
    refine q_W_L (L := [some (.ref 1000000), some (.ref 0), some (.ref 212), some (.ref 234), some (.ref 235), some (.int (nI i)), none, none, none]) ?_ (K _ _ (j_end (hz) hZ1 hZ2 hf2))
    exact j_L
  · refine r_aload dL_law_1227 rfl ?_
    refine n_const 0 dL_law_1229 (by decide) ?_
    refine s_dald dL_law_1230 ?_
    refine r_dload dL_law_1231 rfl ?_
    refine r_dcmp dL_law_1233 ?_
    obtain ⟨e7, e8⟩ := hv c9
    have en := A_ut_n hz c9
    rw [hf2 235 (by omega), e7, e8, hy c9, fp_eq en]
    refine r_if_eq (tgt := 1259) dL_law_1234 (by decide) (fun c8 => ?_) (fun c8 => absurd rfl c8)
    refine r_goto (tgt := 2164) dL_law_1259 (by decide) ?_
    refine s_mono (d := 20) (C := C) (S := S) (Nat.le_refl _) (by omega) (by omega) (fun _ _ q => q) ?_
    refine q_W_L (L := [some (.ref 1000000), some (.ref 0), some (.ref 212), some (.ref 234), some (.ref 235), some (.int (nI i)), none, none, none]) ?_ (K _ _ (j_end (hz) hZ1 hZ2 hf2))
    exact j_L
set_option maxRecDepth 20000 in
set_option maxHeartbeats 1000000 in
theorem lc_16 {G : q_G} {s : s_T} {z : z_T} {i C S : Nat} {P : q_R → s_T → Prop} (hI : j_I z s) (hi : i + 5 ≤ G.2.2.1) (hG : G.2.2.1 ≤ 2560) (K : ∀ z1 s1, j_I z1 s1 → s_W G mL_law 20 C S P 2164 [some (.ref 1000000), some (.ref 0), some (.ref 212), some (.ref 234), some (.ref 235), some (.int (nI i)), none, none, none] [] s1) : s_W G mL_law 20 (C + 3) (S + 18) P 1262 [some (.ref 1000000), some (.ref 0), some (.ref 212), some (.ref 234), some (.ref 235), some (.int (nI i)), none, none, none] [] s := by
  obtain ⟨hz, hZ, hM, hO⟩ := hI
  refine r_aload_n dL_law_1262 rfl rfl ?_
  refine s_VI mX11_pathLength [] dL_law_1263 okX11_pathLength lL_177 npX11_pathLength lysX11 rfl (by omega) (by omega) (by omega) (Nat.le_of_ble_eq_true rfl) (Nat.le_of_ble_eq_true rfl) rfl (c_P0 rfl (c_pathLength hz hZ)) (fun y1 s1 hq => ?_)
  obtain ⟨rfl, hZ1, hf1⟩ := hq
  obtain ⟨hM1, hO1⟩ := m_Z_fr (s1 := s1) hM hO (fun k h1 h2 => hf1 k (by omega))
  refine r_aload_n dL_law_1266 rfl rfl ?_
  refine s_VI mX12_pathLength [] dL_law_1267 okX12_pathLength lL_180 npX12_pathLength lysX12 rfl (by omega) (by omega) (by omega) (Nat.le_of_ble_eq_true rfl) (Nat.le_of_ble_eq_true rfl) rfl (m_pathLength hz hM1 hO1) (fun y2 s2 hq => ?_)
  obtain ⟨hy, ht, hZ2, hf2⟩ := hq
  refine r_icmp_eq (tgt := 2164) dL_law_1270 (by decide) (fun c9 => ?_) (fun c9 => absurd (hy rfl).symm c9)
  refine s_mono (d := 20) (C := C) (S := S) (Nat.le_refl _) (by omega) (by omega) (fun _ _ q => q) ?_
  refine q_W_L (L := [some (.ref 1000000), some (.ref 0), some (.ref 212), some (.ref 234), some (.ref 235), some (.int (nI i)), none, none, none]) ?_ (K _ _ (j_end (zA_pathLength hz) hZ1 hZ2 hf2))
  exact j_L
set_option maxRecDepth 20000 in
set_option maxHeartbeats 1000000 in
theorem lc_17 {G : q_G} {s : s_T} {z : z_T} {i C S : Nat} {P : q_R → s_T → Prop} (hI : j_I z s) (hi : i + 5 ≤ G.2.2.1) (hG : G.2.2.1 ≤ 2560) (K : ∀ z1 s1, j_I z1 s1 → s_W G mL_law 20 C S P 2164 [some (.ref 1000000), some (.ref 0), some (.ref 212), some (.ref 234), some (.ref 235), some (.int (nI i)), none, none, none] [] s1) : s_W G mL_law 20 (C + 3) (S + 18) P 1275 [some (.ref 1000000), some (.ref 0), some (.ref 212), some (.ref 234), some (.ref 235), some (.int (nI i)), none, none, none] [] s := by
  obtain ⟨hz, hZ, hM, hO⟩ := hI
  refine r_aload_n dL_law_1275 rfl rfl ?_
  refine r_aload_n dL_law_1276 rfl rfl ?_
  refine r_iload dL_law_1277 rfl ?_
  refine n_const 1 dL_law_1279 (by decide) ?_
  refine n_add dL_law_1280 ?_
  refine r_sld dL_law_1281 (n_bd (by omega) (by omega)) ?_
  refine r_aload_n dL_law_1282 rfl rfl ?_
  refine s_SI mL_path [.ref 0, .int (G.2.2.2 (nI (i + 1)).toNatClampNeg), .ref 234] dL_law_1283 okL_path lL_181 npL_path (by omega) (by omega) (by omega) (Nat.le_of_ble_eq_true rfl) (Nat.le_of_ble_eq_true rfl) rfl (lw_path hz hZ) (fun y1 s1 hq => ?_)
  obtain ⟨rfl, h4, hv, hZ1, hf1⟩ := hq
  obtain ⟨hM1, hO1⟩ := m_Z_fr hM hO hf1
  refine r_istore dL_law_1286 (by decide) rfl ?_
  refine r_aload_n dL_law_1288 rfl rfl ?_
  refine r_aload_n dL_law_1289 rfl rfl ?_
  refine r_iload dL_law_1290 rfl ?_
  refine n_const 1 dL_law_1292 (by decide) ?_
  refine n_add dL_law_1293 ?_
  refine r_sld dL_law_1294 (n_bd (by omega) (by omega)) ?_
  refine s_VI mX12_path [.int (G.2.2.2 (nI (i + 1)).toNatClampNeg)] dL_law_1295 okX12_path lL_183 npX12_path lysX12 rfl (by omega) (by omega) (by omega) (Nat.le_of_ble_eq_true rfl) (Nat.le_of_ble_eq_true rfl) rfl (m_path hz hM1 hO1) (fun y2 s2 hq => ?_)
  obtain ⟨hy, ht, hZ2, hf2⟩ := hq
  refine r_istore dL_law_1298 (by decide) rfl ?_
  refine r_aload_n dL_law_1300 rfl rfl ?_
  refine s_VI mX12_thrown [] dL_law_1301 okX12_thrown lL_124 npX12_thrown lysX12 rfl (by omega) (by omega) (by omega) (Nat.le_of_ble_eq_true rfl) (Nat.le_of_ble_eq_true rfl) rfl (m_thrown ht) (fun y3 s3 hq => ?_)
  obtain ⟨e9, rfl⟩ := hq
  replace e9 := e9.symm
  subst e9
  refine r_iload dL_law_1304 rfl ?_
  refine r_icmp_eq (tgt := 1311) dL_law_1306 (by decide) (fun c9 => ?_) (fun c9 => absurd rfl c9)
  refine r_iload dL_law_1311 rfl ?_
  refine n_ifne (tgt := 1328) dL_law_1313 (by decide) (by omega) (fun c9 => ?_) (fun c9 => ?_)
  · refine r_goto (tgt := 2164) dL_law_1328 (by decide) ?_
    refine s_mono (d := 20) (C := C) (S := S) (Nat.le_refl _) (by omega) (by omega) (fun _ _ q => q) ?_
    refine q_W_L (L := [some (.ref 1000000), some (.ref 0), some (.ref 212), some (.ref 234), some (.ref 235), some (.int (nI i)), none, none, none]) ?_ (K _ _ (j_end (zA_path hz) hZ1 hZ2 hf2))
    exact j_L
  · refine r_aload_n dL_law_1316 rfl rfl ?_
    refine n_const 0 dL_law_1317 (by decide) ?_
    refine s_lald dL_law_1318 ?_
    refine r_iload dL_law_1319 rfl ?_
    refine r_i2l dL_law_1321 rfl ?_
    refine r_lcmp dL_law_1322 ?_
    have e8 : s2 234 0 = y2 := by rw [hf2 234 (by omega), hv c9, hy c9]
    rw [e8, lg_cmp_rf]
    refine r_if_eq (tgt := 1328) dL_law_1323 (by decide) (fun c8 => ?_) (fun c8 => absurd rfl c8)
    refine r_goto (tgt := 2164) dL_law_1328 (by decide) ?_
    refine s_mono (d := 20) (C := C) (S := S) (Nat.le_refl _) (by omega) (by omega) (fun _ _ q => q) ?_
    refine q_W_L (L := [some (.ref 1000000), some (.ref 0), some (.ref 212), some (.ref 234), some (.ref 235), some (.int (nI i)), none, none, none]) ?_ (K _ _ (j_end (zA_path hz) hZ1 hZ2 hf2))
    exact j_L
set_option maxRecDepth 20000 in
set_option maxHeartbeats 1000000 in
theorem lc_18 {G : q_G} {s : s_T} {z : z_T} {i C S : Nat} {P : q_R → s_T → Prop} (hI : j_I z s) (hi : i + 5 ≤ G.2.2.1) (hG : G.2.2.1 ≤ 2560) (K : ∀ z1 s1, j_I z1 s1 → s_W G mL_law 20 C S P 2164 [some (.ref 1000000), some (.ref 0), some (.ref 212), some (.ref 234), some (.ref 235), some (.int (nI i)), none, none, none] [] s1) : s_W G mL_law 20 (C + 3) (S + 18) P 1331 [some (.ref 1000000), some (.ref 0), some (.ref 212), some (.ref 234), some (.ref 235), some (.int (nI i)), none, none, none] [] s := by
  obtain ⟨hz, hZ, hM, hO⟩ := hI
  refine r_aload_n dL_law_1331 rfl rfl ?_
  refine s_VI mX11_blocks [] dL_law_1332 okX11_blocks lL_184 npX11_blocks lysX11 rfl (by omega) (by omega) (by omega) (Nat.le_of_ble_eq_true rfl) (Nat.le_of_ble_eq_true rfl) rfl (c_P0 rfl (c_blocks hz hZ)) (fun y1 s1 hq => ?_)
  obtain ⟨rfl, hZ1, hf1⟩ := hq
  obtain ⟨hM1, hO1⟩ := m_Z_fr (s1 := s1) hM hO (fun k h1 h2 => hf1 k (by omega))
  refine r_aload_n dL_law_1335 rfl rfl ?_
  refine s_VI mX12_blocks [] dL_law_1336 okX12_blocks lL_187 npX12_blocks lysX12 rfl (by omega) (by omega) (by omega) (Nat.le_of_ble_eq_true rfl) (Nat.le_of_ble_eq_true rfl) rfl (m_blocks hz hM1 hO1) (fun y2 s2 hq => ?_)
  obtain ⟨hy, ht, hZ2, hf2⟩ := hq
  refine r_icmp_eq (tgt := 2164) dL_law_1339 (by decide) (fun c9 => ?_) (fun c9 => absurd (hy rfl).symm c9)
  refine s_mono (d := 20) (C := C) (S := S) (Nat.le_refl _) (by omega) (by omega) (fun _ _ q => q) ?_
  refine q_W_L (L := [some (.ref 1000000), some (.ref 0), some (.ref 212), some (.ref 234), some (.ref 235), some (.int (nI i)), none, none, none]) ?_ (K _ _ (j_end (zA_blocks hz) hZ1 hZ2 hf2))
  exact j_L
set_option maxRecDepth 20000 in
set_option maxHeartbeats 1000000 in
theorem lc_19 {G : q_G} {s : s_T} {z : z_T} {i C S : Nat} {P : q_R → s_T → Prop} (hI : j_I z s) (hi : i + 5 ≤ G.2.2.1) (hG : G.2.2.1 ≤ 2560) (K : ∀ z1 s1, j_I z1 s1 → s_W G mL_law 20 C S P 2164 [some (.ref 1000000), some (.ref 0), some (.ref 212), some (.ref 234), some (.ref 235), some (.int (nI i)), none, none, none] [] s1) : s_W G mL_law 20 (C + 3) (S + 18) P 1344 [some (.ref 1000000), some (.ref 0), some (.ref 212), some (.ref 234), some (.ref 235), some (.int (nI i)), none, none, none] [] s := by
  obtain ⟨hz, hZ, hM, hO⟩ := hI
  refine r_aload_n dL_law_1344 rfl rfl ?_
  refine r_aload_n dL_law_1345 rfl rfl ?_
  refine r_iload dL_law_1346 rfl ?_
  refine n_const 1 dL_law_1348 (by decide) ?_
  refine n_add dL_law_1349 ?_
  refine r_sld dL_law_1350 (n_bd (by omega) (by omega)) ?_
  refine r_aload_n dL_law_1351 rfl rfl ?_
  refine s_SI mL_blockLength [.ref 0, .int (G.2.2.2 (nI (i + 1)).toNatClampNeg), .ref 234] dL_law_1352 okL_blockLength lL_188 npL_blockLength (by omega) (by omega) (by omega) (Nat.le_of_ble_eq_true rfl) (Nat.le_of_ble_eq_true rfl) rfl (lw_blockLength hz hZ) (fun y1 s1 hq => ?_)
  obtain ⟨rfl, h4, hv, hZ1, hf1⟩ := hq
  obtain ⟨hM1, hO1⟩ := m_Z_fr hM hO hf1
  refine r_istore dL_law_1355 (by decide) rfl ?_
  refine r_aload_n dL_law_1357 rfl rfl ?_
  refine r_aload_n dL_law_1358 rfl rfl ?_
  refine r_iload dL_law_1359 rfl ?_
  refine n_const 1 dL_law_1361 (by decide) ?_
  refine n_add dL_law_1362 ?_
  refine r_sld dL_law_1363 (n_bd (by omega) (by omega)) ?_
  refine s_VI mX12_blockLength [.int (G.2.2.2 (nI (i + 1)).toNatClampNeg)] dL_law_1364 okX12_blockLength lL_190 npX12_blockLength lysX12 rfl (by omega) (by omega) (by omega) (Nat.le_of_ble_eq_true rfl) (Nat.le_of_ble_eq_true rfl) rfl (m_blockLength hz hM1 hO1) (fun y2 s2 hq => ?_)
  obtain ⟨hy, ht, hZ2, hf2⟩ := hq
  refine r_istore dL_law_1367 (by decide) rfl ?_
  refine r_aload_n dL_law_1369 rfl rfl ?_
  refine s_VI mX12_thrown [] dL_law_1370 okX12_thrown lL_124 npX12_thrown lysX12 rfl (by omega) (by omega) (by omega) (Nat.le_of_ble_eq_true rfl) (Nat.le_of_ble_eq_true rfl) rfl (m_thrown ht) (fun y3 s3 hq => ?_)
  obtain ⟨e9, rfl⟩ := hq
  replace e9 := e9.symm
  subst e9
  refine r_iload dL_law_1373 rfl ?_
  refine r_icmp_eq (tgt := 1380) dL_law_1375 (by decide) (fun c9 => ?_) (fun c9 => absurd rfl c9)
  refine r_iload dL_law_1380 rfl ?_
  refine n_ifne (tgt := 1397) dL_law_1382 (by decide) (by omega) (fun c9 => ?_) (fun c9 => ?_)
  · refine r_goto (tgt := 2164) dL_law_1397 (by decide) ?_
    refine s_mono (d := 20) (C := C) (S := S) (Nat.le_refl _) (by omega) (by omega) (fun _ _ q => q) ?_
    refine q_W_L (L := [some (.ref 1000000), some (.ref 0), some (.ref 212), some (.ref 234), some (.ref 235), some (.int (nI i)), none, none, none]) ?_ (K _ _ (j_end (zA_blockLength hz) hZ1 hZ2 hf2))
    exact j_L
  · refine r_aload_n dL_law_1385 rfl rfl ?_
    refine n_const 0 dL_law_1386 (by decide) ?_
    refine s_lald dL_law_1387 ?_
    refine r_iload dL_law_1388 rfl ?_
    refine r_i2l dL_law_1390 rfl ?_
    refine r_lcmp dL_law_1391 ?_
    have e8 : s2 234 0 = y2 := by rw [hf2 234 (by omega), hv c9, hy c9]
    rw [e8, lg_cmp_rf]
    refine r_if_eq (tgt := 1397) dL_law_1392 (by decide) (fun c8 => ?_) (fun c8 => absurd rfl c8)
    refine r_goto (tgt := 2164) dL_law_1397 (by decide) ?_
    refine s_mono (d := 20) (C := C) (S := S) (Nat.le_refl _) (by omega) (by omega) (fun _ _ q => q) ?_
    refine q_W_L (L := [some (.ref 1000000), some (.ref 0), some (.ref 212), some (.ref 234), some (.ref 235), some (.int (nI i)), none, none, none]) ?_ (K _ _ (j_end (zA_blockLength hz) hZ1 hZ2 hf2))
    exact j_L
set_option maxRecDepth 20000 in
set_option maxHeartbeats 1000000 in
theorem lc_20 {G : q_G} {s : s_T} {z : z_T} {i C S : Nat} {P : q_R → s_T → Prop} (hI : j_I z s) (hi : i + 5 ≤ G.2.2.1) (hG : G.2.2.1 ≤ 2560) (K : ∀ z1 s1, j_I z1 s1 → s_W G mL_law 20 C S P 2164 [some (.ref 1000000), some (.ref 0), some (.ref 212), some (.ref 234), some (.ref 235), some (.int (nI i)), none, none, none] [] s1) : s_W G mL_law 20 (C + 3) (S + 18) P 1400 [some (.ref 1000000), some (.ref 0), some (.ref 212), some (.ref 234), some (.ref 235), some (.int (nI i)), none, none, none] [] s := by
  obtain ⟨hz, hZ, hM, hO⟩ := hI
  refine r_aload_n dL_law_1400 rfl rfl ?_
  refine r_aload_n dL_law_1401 rfl rfl ?_
  refine r_iload dL_law_1402 rfl ?_
  refine n_const 1 dL_law_1404 (by decide) ?_
  refine n_add dL_law_1405 ?_
  refine r_sld dL_law_1406 (n_bd (by omega) (by omega)) ?_
  refine r_aload_n dL_law_1407 rfl rfl ?_
  refine r_iload dL_law_1408 rfl ?_
  refine n_const 2 dL_law_1410 (by decide) ?_
  refine n_add dL_law_1411 ?_
  refine r_sld dL_law_1412 (n_bd (by omega) (by omega)) ?_
  refine r_aload_n dL_law_1413 rfl rfl ?_
  refine s_SI mL_swap [.ref 0, .int (G.2.2.2 (nI (i + 1)).toNatClampNeg), .int (G.2.2.2 (nI (i + 2)).toNatClampNeg), .ref 234] dL_law_1414 okL_swap lL_191 npL_swap (by omega) (by omega) (by omega) (Nat.le_of_ble_eq_true rfl) (Nat.le_of_ble_eq_true rfl) rfl (lw_swap hz hZ) (fun y1 s1 hq => ?_)
  obtain ⟨rfl, h4, hv, hZ1, hf1⟩ := hq
  obtain ⟨hM1, hO1⟩ := m_Z_fr hM hO hf1
  refine r_istore dL_law_1417 (by decide) rfl ?_
  refine r_aload_n dL_law_1419 rfl rfl ?_
  refine r_aload_n dL_law_1420 rfl rfl ?_
  refine r_iload dL_law_1421 rfl ?_
  refine n_const 1 dL_law_1423 (by decide) ?_
  refine n_add dL_law_1424 ?_
  refine r_sld dL_law_1425 (n_bd (by omega) (by omega)) ?_
  refine r_aload_n dL_law_1426 rfl rfl ?_
  refine r_iload dL_law_1427 rfl ?_
  refine n_const 2 dL_law_1429 (by decide) ?_
  refine n_add dL_law_1430 ?_
  refine r_sld dL_law_1431 (n_bd (by omega) (by omega)) ?_
  refine s_VI mX12_swap [.int (G.2.2.2 (nI (i + 1)).toNatClampNeg), .int (G.2.2.2 (nI (i + 2)).toNatClampNeg)] dL_law_1432 okX12_swap lL_193 npX12_swap lysX12 rfl (by omega) (by omega) (by omega) (Nat.le_of_ble_eq_true rfl) (Nat.le_of_ble_eq_true rfl) rfl (m_swap hz hM1 hO1) (fun y2 s2 hq => ?_)
  obtain ⟨hy, ht, hZ2, hf2⟩ := hq
  refine r_istore dL_law_1435 (by decide) rfl ?_
  refine r_aload_n dL_law_1437 rfl rfl ?_
  refine s_VI mX12_thrown [] dL_law_1438 okX12_thrown lL_124 npX12_thrown lysX12 rfl (by omega) (by omega) (by omega) (Nat.le_of_ble_eq_true rfl) (Nat.le_of_ble_eq_true rfl) rfl (m_thrown ht) (fun y3 s3 hq => ?_)
  obtain ⟨e9, rfl⟩ := hq
  replace e9 := e9.symm
  subst e9
  refine r_iload dL_law_1441 rfl ?_
  refine r_icmp_eq (tgt := 1448) dL_law_1443 (by decide) (fun c9 => ?_) (fun c9 => absurd rfl c9)
  refine r_iload dL_law_1448 rfl ?_
  refine n_ifne (tgt := 1465) dL_law_1450 (by decide) (by omega) (fun c9 => ?_) (fun c9 => ?_)
  · refine r_goto (tgt := 2164) dL_law_1465 (by decide) ?_
    refine s_mono (d := 20) (C := C) (S := S) (Nat.le_refl _) (by omega) (by omega) (fun _ _ q => q) ?_
    refine q_W_L (L := [some (.ref 1000000), some (.ref 0), some (.ref 212), some (.ref 234), some (.ref 235), some (.int (nI i)), none, none, none]) ?_ (K _ _ (j_end (zA_swap hz) hZ1 hZ2 hf2))
    exact j_L
  · refine r_aload_n dL_law_1453 rfl rfl ?_
    refine n_const 0 dL_law_1454 (by decide) ?_
    refine s_lald dL_law_1455 ?_
    refine r_iload dL_law_1456 rfl ?_
    refine r_i2l dL_law_1458 rfl ?_
    refine r_lcmp dL_law_1459 ?_
    have e8 : s2 234 0 = y2 := by rw [hf2 234 (by omega), hv c9, hy c9]
    rw [e8, lg_cmp_rf]
    refine r_if_eq (tgt := 1465) dL_law_1460 (by decide) (fun c8 => ?_) (fun c8 => absurd rfl c8)
    refine r_goto (tgt := 2164) dL_law_1465 (by decide) ?_
    refine s_mono (d := 20) (C := C) (S := S) (Nat.le_refl _) (by omega) (by omega) (fun _ _ q => q) ?_
    refine q_W_L (L := [some (.ref 1000000), some (.ref 0), some (.ref 212), some (.ref 234), some (.ref 235), some (.int (nI i)), none, none, none]) ?_ (K _ _ (j_end (zA_swap hz) hZ1 hZ2 hf2))
    exact j_L
set_option maxRecDepth 20000 in
set_option maxHeartbeats 1000000 in
theorem lc_21 {G : q_G} {s : s_T} {z : z_T} {i C S : Nat} {P : q_R → s_T → Prop} (hI : j_I z s) (hi : i + 5 ≤ G.2.2.1) (hG : G.2.2.1 ≤ 2560) (K : ∀ z1 s1, j_I z1 s1 → s_W G mL_law 20 C S P 2164 [some (.ref 1000000), some (.ref 0), some (.ref 212), some (.ref 234), some (.ref 235), some (.int (nI i)), none, none, none] [] s1) : s_W G mL_law 20 (C + 3) (S + 18) P 1468 [some (.ref 1000000), some (.ref 0), some (.ref 212), some (.ref 234), some (.ref 235), some (.int (nI i)), none, none, none] [] s := by
  obtain ⟨hz, hZ, hM, hO⟩ := hI
  refine r_aload_n dL_law_1468 rfl rfl ?_
  refine r_aload_n dL_law_1469 rfl rfl ?_
  refine r_iload dL_law_1470 rfl ?_
  refine n_const 1 dL_law_1472 (by decide) ?_
  refine n_add dL_law_1473 ?_
  refine r_sld dL_law_1474 (n_bd (by omega) (by omega)) ?_
  refine r_aload_n dL_law_1475 rfl rfl ?_
  refine r_iload dL_law_1476 rfl ?_
  refine n_const 2 dL_law_1478 (by decide) ?_
  refine n_add dL_law_1479 ?_
  refine r_sld dL_law_1480 (n_bd (by omega) (by omega)) ?_
  refine r_aload_n dL_law_1481 rfl rfl ?_
  refine s_SI mL_move [.ref 0, .int (G.2.2.2 (nI (i + 1)).toNatClampNeg), .int (G.2.2.2 (nI (i + 2)).toNatClampNeg), .ref 234] dL_law_1482 okL_move lL_194 npL_move (by omega) (by omega) (by omega) (Nat.le_of_ble_eq_true rfl) (Nat.le_of_ble_eq_true rfl) rfl (lw_move hz hZ) (fun y1 s1 hq => ?_)
  obtain ⟨rfl, h4, hv, hZ1, hf1⟩ := hq
  obtain ⟨hM1, hO1⟩ := m_Z_fr hM hO hf1
  refine r_istore dL_law_1485 (by decide) rfl ?_
  refine r_aload_n dL_law_1487 rfl rfl ?_
  refine r_aload_n dL_law_1488 rfl rfl ?_
  refine r_iload dL_law_1489 rfl ?_
  refine n_const 1 dL_law_1491 (by decide) ?_
  refine n_add dL_law_1492 ?_
  refine r_sld dL_law_1493 (n_bd (by omega) (by omega)) ?_
  refine r_aload_n dL_law_1494 rfl rfl ?_
  refine r_iload dL_law_1495 rfl ?_
  refine n_const 2 dL_law_1497 (by decide) ?_
  refine n_add dL_law_1498 ?_
  refine r_sld dL_law_1499 (n_bd (by omega) (by omega)) ?_
  refine s_VI mX12_move [.int (G.2.2.2 (nI (i + 1)).toNatClampNeg), .int (G.2.2.2 (nI (i + 2)).toNatClampNeg)] dL_law_1500 okX12_move lL_196 npX12_move lysX12 rfl (by omega) (by omega) (by omega) (Nat.le_of_ble_eq_true rfl) (Nat.le_of_ble_eq_true rfl) rfl (m_move hz hM1 hO1) (fun y2 s2 hq => ?_)
  obtain ⟨hy, ht, hZ2, hf2⟩ := hq
  refine r_istore dL_law_1503 (by decide) rfl ?_
  refine r_aload_n dL_law_1505 rfl rfl ?_
  refine s_VI mX12_thrown [] dL_law_1506 okX12_thrown lL_124 npX12_thrown lysX12 rfl (by omega) (by omega) (by omega) (Nat.le_of_ble_eq_true rfl) (Nat.le_of_ble_eq_true rfl) rfl (m_thrown ht) (fun y3 s3 hq => ?_)
  obtain ⟨e9, rfl⟩ := hq
  replace e9 := e9.symm
  subst e9
  refine r_iload dL_law_1509 rfl ?_
  refine r_icmp_eq (tgt := 1516) dL_law_1511 (by decide) (fun c9 => ?_) (fun c9 => absurd rfl c9)
  refine r_iload dL_law_1516 rfl ?_
  refine n_ifne (tgt := 1533) dL_law_1518 (by decide) (by omega) (fun c9 => ?_) (fun c9 => ?_)
  · refine r_goto (tgt := 2164) dL_law_1533 (by decide) ?_
    refine s_mono (d := 20) (C := C) (S := S) (Nat.le_refl _) (by omega) (by omega) (fun _ _ q => q) ?_
    refine q_W_L (L := [some (.ref 1000000), some (.ref 0), some (.ref 212), some (.ref 234), some (.ref 235), some (.int (nI i)), none, none, none]) ?_ (K _ _ (j_end (zA_move hz) hZ1 hZ2 hf2))
    exact j_L
  · refine r_aload_n dL_law_1521 rfl rfl ?_
    refine n_const 0 dL_law_1522 (by decide) ?_
    refine s_lald dL_law_1523 ?_
    refine r_iload dL_law_1524 rfl ?_
    refine r_i2l dL_law_1526 rfl ?_
    refine r_lcmp dL_law_1527 ?_
    have e8 : s2 234 0 = y2 := by rw [hf2 234 (by omega), hv c9, hy c9]
    rw [e8, lg_cmp_rf]
    refine r_if_eq (tgt := 1533) dL_law_1528 (by decide) (fun c8 => ?_) (fun c8 => absurd rfl c8)
    refine r_goto (tgt := 2164) dL_law_1533 (by decide) ?_
    refine s_mono (d := 20) (C := C) (S := S) (Nat.le_refl _) (by omega) (by omega) (fun _ _ q => q) ?_
    refine q_W_L (L := [some (.ref 1000000), some (.ref 0), some (.ref 212), some (.ref 234), some (.ref 235), some (.int (nI i)), none, none, none]) ?_ (K _ _ (j_end (zA_move hz) hZ1 hZ2 hf2))
    exact j_L
set_option maxRecDepth 20000 in
set_option maxHeartbeats 1000000 in
theorem lc_22 {G : q_G} {s : s_T} {z : z_T} {i C S : Nat} {P : q_R → s_T → Prop} (hI : j_I z s) (hi : i + 5 ≤ G.2.2.1) (hG : G.2.2.1 ≤ 2560) (K : ∀ z1 s1, j_I z1 s1 → s_W G mL_law 20 C S P 2164 [some (.ref 1000000), some (.ref 0), some (.ref 212), some (.ref 234), some (.ref 235), some (.int (nI i)), none, none, none] [] s1) : s_W G mL_law 20 (C + 3) (S + 18) P 1536 [some (.ref 1000000), some (.ref 0), some (.ref 212), some (.ref 234), some (.ref 235), some (.int (nI i)), none, none, none] [] s := by
  obtain ⟨hz, hZ, hM, hO⟩ := hI
  refine r_aload_n dL_law_1536 rfl rfl ?_
  refine r_aload_n dL_law_1537 rfl rfl ?_
  refine r_iload dL_law_1538 rfl ?_
  refine n_const 1 dL_law_1540 (by decide) ?_
  refine n_add dL_law_1541 ?_
  refine r_sld dL_law_1542 (n_bd (by omega) (by omega)) ?_
  refine r_aload_n dL_law_1543 rfl rfl ?_
  refine s_SI mL_dispatch [.ref 0, .int (G.2.2.2 (nI (i + 1)).toNatClampNeg), .ref 234] dL_law_1544 okL_dispatch lL_197 npL_dispatch (by omega) (by omega) (by omega) (Nat.le_of_ble_eq_true rfl) (Nat.le_of_ble_eq_true rfl) rfl (lw_dispatch hz hZ) (fun y1 s1 hq => ?_)
  obtain ⟨rfl, h4, hv, hZ1, hf1⟩ := hq
  obtain ⟨hM1, hO1⟩ := m_Z_fr hM hO hf1
  refine r_istore dL_law_1547 (by decide) rfl ?_
  refine r_aload_n dL_law_1549 rfl rfl ?_
  refine r_aload_n dL_law_1550 rfl rfl ?_
  refine r_iload dL_law_1551 rfl ?_
  refine n_const 1 dL_law_1553 (by decide) ?_
  refine n_add dL_law_1554 ?_
  refine r_sld dL_law_1555 (n_bd (by omega) (by omega)) ?_
  refine s_VI mX12_dispatch [.int (G.2.2.2 (nI (i + 1)).toNatClampNeg)] dL_law_1556 okX12_dispatch lL_199 npX12_dispatch lysX12 rfl (by omega) (by omega) (by omega) (Nat.le_of_ble_eq_true rfl) (Nat.le_of_ble_eq_true rfl) rfl (m_dispatch hz hM1 hO1) (fun y2 s2 hq => ?_)
  obtain ⟨hy, ht, hZ2, hf2⟩ := hq
  refine r_istore dL_law_1559 (by decide) rfl ?_
  refine r_aload_n dL_law_1561 rfl rfl ?_
  refine s_VI mX12_thrown [] dL_law_1562 okX12_thrown lL_124 npX12_thrown lysX12 rfl (by omega) (by omega) (by omega) (Nat.le_of_ble_eq_true rfl) (Nat.le_of_ble_eq_true rfl) rfl (m_thrown ht) (fun y3 s3 hq => ?_)
  obtain ⟨e9, rfl⟩ := hq
  replace e9 := e9.symm
  subst e9
  refine r_iload dL_law_1565 rfl ?_
  refine r_icmp_eq (tgt := 1572) dL_law_1567 (by decide) (fun c9 => ?_) (fun c9 => absurd rfl c9)
  refine r_iload dL_law_1572 rfl ?_
  refine n_ifne (tgt := 1589) dL_law_1574 (by decide) (by omega) (fun c9 => ?_) (fun c9 => ?_)
  · refine r_goto (tgt := 2164) dL_law_1589 (by decide) ?_
    refine s_mono (d := 20) (C := C) (S := S) (Nat.le_refl _) (by omega) (by omega) (fun _ _ q => q) ?_
    refine q_W_L (L := [some (.ref 1000000), some (.ref 0), some (.ref 212), some (.ref 234), some (.ref 235), some (.int (nI i)), none, none, none]) ?_ (K _ _ (j_end (zA_dispatch hz) hZ1 hZ2 hf2))
    exact j_L
  · refine r_aload_n dL_law_1577 rfl rfl ?_
    refine n_const 0 dL_law_1578 (by decide) ?_
    refine s_lald dL_law_1579 ?_
    refine r_iload dL_law_1580 rfl ?_
    refine r_i2l dL_law_1582 rfl ?_
    refine r_lcmp dL_law_1583 ?_
    have e8 : s2 234 0 = y2 := by rw [hf2 234 (by omega), hv c9, hy c9]
    rw [e8, lg_cmp_rf]
    refine r_if_eq (tgt := 1589) dL_law_1584 (by decide) (fun c8 => ?_) (fun c8 => absurd rfl c8)
    refine r_goto (tgt := 2164) dL_law_1589 (by decide) ?_
    refine s_mono (d := 20) (C := C) (S := S) (Nat.le_refl _) (by omega) (by omega) (fun _ _ q => q) ?_
    refine q_W_L (L := [some (.ref 1000000), some (.ref 0), some (.ref 212), some (.ref 234), some (.ref 235), some (.int (nI i)), none, none, none]) ?_ (K _ _ (j_end (zA_dispatch hz) hZ1 hZ2 hf2))
    exact j_L
set_option maxRecDepth 20000 in
set_option maxHeartbeats 1000000 in
theorem lc_23 {G : q_G} {s : s_T} {z : z_T} {i C S : Nat} {P : q_R → s_T → Prop} (hI : j_I z s) (hi : i + 5 ≤ G.2.2.1) (hG : G.2.2.1 ≤ 2560) (K : ∀ z1 s1, j_I z1 s1 → s_W G mL_law 20 C S P 2164 [some (.ref 1000000), some (.ref 0), some (.ref 212), some (.ref 234), some (.ref 235), some (.int (nI i)), none, none, none] [] s1) : s_W G mL_law 20 (C + 3) (S + 18) P 1592 [some (.ref 1000000), some (.ref 0), some (.ref 212), some (.ref 234), some (.ref 235), some (.int (nI i)), none, none, none] [] s := by
  obtain ⟨hz, hZ, hM, hO⟩ := hI
  refine r_aload_n dL_law_1592 rfl rfl ?_
  refine r_aload_n dL_law_1593 rfl rfl ?_
  refine r_iload dL_law_1594 rfl ?_
  refine n_const 1 dL_law_1596 (by decide) ?_
  refine n_add dL_law_1597 ?_
  refine r_sld dL_law_1598 (n_bd (by omega) (by omega)) ?_
  refine r_aload_n dL_law_1599 rfl rfl ?_
  refine r_iload dL_law_1600 rfl ?_
  refine n_const 2 dL_law_1602 (by decide) ?_
  refine n_add dL_law_1603 ?_
  refine r_sld dL_law_1604 (n_bd (by omega) (by omega)) ?_
  refine r_aload_n dL_law_1605 rfl rfl ?_
  refine s_SI mL_repair [.ref 0, .int (G.2.2.2 (nI (i + 1)).toNatClampNeg), .int (G.2.2.2 (nI (i + 2)).toNatClampNeg), .ref 234] dL_law_1606 okL_repair lL_200 npL_repair (by omega) (by omega) (by omega) (Nat.le_of_ble_eq_true rfl) (Nat.le_of_ble_eq_true rfl) rfl (lw_repair hz hZ) (fun y1 s1 hq => ?_)
  obtain ⟨rfl, h4, hv, hZ1, hf1⟩ := hq
  obtain ⟨hM1, hO1⟩ := m_Z_fr hM hO hf1
  refine r_istore dL_law_1609 (by decide) rfl ?_
  refine r_aload_n dL_law_1611 rfl rfl ?_
  refine r_aload_n dL_law_1612 rfl rfl ?_
  refine r_iload dL_law_1613 rfl ?_
  refine n_const 1 dL_law_1615 (by decide) ?_
  refine n_add dL_law_1616 ?_
  refine r_sld dL_law_1617 (n_bd (by omega) (by omega)) ?_
  refine r_aload_n dL_law_1618 rfl rfl ?_
  refine r_iload dL_law_1619 rfl ?_
  refine n_const 2 dL_law_1621 (by decide) ?_
  refine n_add dL_law_1622 ?_
  refine r_sld dL_law_1623 (n_bd (by omega) (by omega)) ?_
  refine s_VI mX12_repair [.int (G.2.2.2 (nI (i + 1)).toNatClampNeg), .int (G.2.2.2 (nI (i + 2)).toNatClampNeg)] dL_law_1624 okX12_repair lL_202 npX12_repair lysX12 rfl (by omega) (by omega) (by omega) (Nat.le_of_ble_eq_true rfl) (Nat.le_of_ble_eq_true rfl) rfl (m_repair hz hM1 hO1) (fun y2 s2 hq => ?_)
  obtain ⟨hy, ht, hZ2, hf2⟩ := hq
  refine r_istore dL_law_1627 (by decide) rfl ?_
  refine r_aload_n dL_law_1629 rfl rfl ?_
  refine s_VI mX12_thrown [] dL_law_1630 okX12_thrown lL_124 npX12_thrown lysX12 rfl (by omega) (by omega) (by omega) (Nat.le_of_ble_eq_true rfl) (Nat.le_of_ble_eq_true rfl) rfl (m_thrown ht) (fun y3 s3 hq => ?_)
  obtain ⟨e9, rfl⟩ := hq
  replace e9 := e9.symm
  subst e9
  refine r_iload dL_law_1633 rfl ?_
  refine r_icmp_eq (tgt := 1640) dL_law_1635 (by decide) (fun c9 => ?_) (fun c9 => absurd rfl c9)
  refine r_iload dL_law_1640 rfl ?_
  refine n_ifne (tgt := 1657) dL_law_1642 (by decide) (by omega) (fun c9 => ?_) (fun c9 => ?_)
  · refine r_goto (tgt := 2164) dL_law_1657 (by decide) ?_
    refine s_mono (d := 20) (C := C) (S := S) (Nat.le_refl _) (by omega) (by omega) (fun _ _ q => q) ?_
    refine q_W_L (L := [some (.ref 1000000), some (.ref 0), some (.ref 212), some (.ref 234), some (.ref 235), some (.int (nI i)), none, none, none]) ?_ (K _ _ (j_end (zA_repair hz) hZ1 hZ2 hf2))
    exact j_L
  · refine r_aload_n dL_law_1645 rfl rfl ?_
    refine n_const 0 dL_law_1646 (by decide) ?_
    refine s_lald dL_law_1647 ?_
    refine r_iload dL_law_1648 rfl ?_
    refine r_i2l dL_law_1650 rfl ?_
    refine r_lcmp dL_law_1651 ?_
    have e8 : s2 234 0 = y2 := by rw [hf2 234 (by omega), hv c9, hy c9]
    rw [e8, lg_cmp_rf]
    refine r_if_eq (tgt := 1657) dL_law_1652 (by decide) (fun c8 => ?_) (fun c8 => absurd rfl c8)
    refine r_goto (tgt := 2164) dL_law_1657 (by decide) ?_
    refine s_mono (d := 20) (C := C) (S := S) (Nat.le_refl _) (by omega) (by omega) (fun _ _ q => q) ?_
    refine q_W_L (L := [some (.ref 1000000), some (.ref 0), some (.ref 212), some (.ref 234), some (.ref 235), some (.int (nI i)), none, none, none]) ?_ (K _ _ (j_end (zA_repair hz) hZ1 hZ2 hf2))
    exact j_L
set_option maxRecDepth 20000 in
set_option maxHeartbeats 1000000 in
theorem lc_24 {G : q_G} {s : s_T} {z : z_T} {i C S : Nat} {P : q_R → s_T → Prop} (hI : j_I z s) (hi : i + 5 ≤ G.2.2.1) (hG : G.2.2.1 ≤ 2560) (K : ∀ z1 s1, j_I z1 s1 → s_W G mL_law 20 C S P 2164 [some (.ref 1000000), some (.ref 0), some (.ref 212), some (.ref 234), some (.ref 235), some (.int (nI i)), none, none, none] [] s1) : s_W G mL_law 20 (C + 3) (S + 18) P 1660 [some (.ref 1000000), some (.ref 0), some (.ref 212), some (.ref 234), some (.ref 235), some (.int (nI i)), none, none, none] [] s := by
  obtain ⟨hz, hZ, hM, hO⟩ := hI
  refine r_aload_n dL_law_1660 rfl rfl ?_
  refine r_aload_n dL_law_1661 rfl rfl ?_
  refine r_iload dL_law_1662 rfl ?_
  refine n_const 1 dL_law_1664 (by decide) ?_
  refine n_add dL_law_1665 ?_
  refine r_sld dL_law_1666 (n_bd (by omega) (by omega)) ?_
  refine r_aload_n dL_law_1667 rfl rfl ?_
  refine s_SI mL_best [.ref 0, .int (G.2.2.2 (nI (i + 1)).toNatClampNeg), .ref 234] dL_law_1668 okL_best lL_203 npL_best (by omega) (by omega) (by omega) (Nat.le_of_ble_eq_true rfl) (Nat.le_of_ble_eq_true rfl) rfl (lw_best hz hZ) (fun y1 s1 hq => ?_)
  obtain ⟨rfl, h4, hv, hZ1, hf1⟩ := hq
  obtain ⟨hM1, hO1⟩ := m_Z_fr hM hO hf1
  refine r_istore dL_law_1671 (by decide) rfl ?_
  refine r_aload_n dL_law_1673 rfl rfl ?_
  refine r_aload_n dL_law_1674 rfl rfl ?_
  refine r_iload dL_law_1675 rfl ?_
  refine n_const 1 dL_law_1677 (by decide) ?_
  refine n_add dL_law_1678 ?_
  refine r_sld dL_law_1679 (n_bd (by omega) (by omega)) ?_
  refine s_VI mX12_best [.int (G.2.2.2 (nI (i + 1)).toNatClampNeg)] dL_law_1680 okX12_best lL_205 npX12_best lysX12 rfl (by omega) (by omega) (by omega) (Nat.le_of_ble_eq_true rfl) (Nat.le_of_ble_eq_true rfl) rfl (m_best hz hM1 hO1) (fun y2 s2 hq => ?_)
  obtain ⟨hy, ht, hZ2, hf2⟩ := hq
  refine r_istore dL_law_1683 (by decide) rfl ?_
  refine r_aload_n dL_law_1685 rfl rfl ?_
  refine s_VI mX12_thrown [] dL_law_1686 okX12_thrown lL_124 npX12_thrown lysX12 rfl (by omega) (by omega) (by omega) (Nat.le_of_ble_eq_true rfl) (Nat.le_of_ble_eq_true rfl) rfl (m_thrown ht) (fun y3 s3 hq => ?_)
  obtain ⟨e9, rfl⟩ := hq
  replace e9 := e9.symm
  subst e9
  refine r_iload dL_law_1689 rfl ?_
  refine r_icmp_eq (tgt := 1696) dL_law_1691 (by decide) (fun c9 => ?_) (fun c9 => absurd rfl c9)
  refine r_iload dL_law_1696 rfl ?_
  refine n_ifne (tgt := 1713) dL_law_1698 (by decide) (by omega) (fun c9 => ?_) (fun c9 => ?_)
  · refine r_goto (tgt := 2164) dL_law_1713 (by decide) ?_
    refine s_mono (d := 20) (C := C) (S := S) (Nat.le_refl _) (by omega) (by omega) (fun _ _ q => q) ?_
    refine q_W_L (L := [some (.ref 1000000), some (.ref 0), some (.ref 212), some (.ref 234), some (.ref 235), some (.int (nI i)), none, none, none]) ?_ (K _ _ (j_end (zA_best hz) hZ1 hZ2 hf2))
    exact j_L
  · refine r_aload_n dL_law_1701 rfl rfl ?_
    refine n_const 0 dL_law_1702 (by decide) ?_
    refine s_lald dL_law_1703 ?_
    refine r_iload dL_law_1704 rfl ?_
    refine r_i2l dL_law_1706 rfl ?_
    refine r_lcmp dL_law_1707 ?_
    have e8 : s2 234 0 = y2 := by rw [hf2 234 (by omega), hv c9, hy c9]
    rw [e8, lg_cmp_rf]
    refine r_if_eq (tgt := 1713) dL_law_1708 (by decide) (fun c8 => ?_) (fun c8 => absurd rfl c8)
    refine r_goto (tgt := 2164) dL_law_1713 (by decide) ?_
    refine s_mono (d := 20) (C := C) (S := S) (Nat.le_refl _) (by omega) (by omega) (fun _ _ q => q) ?_
    refine q_W_L (L := [some (.ref 1000000), some (.ref 0), some (.ref 212), some (.ref 234), some (.ref 235), some (.int (nI i)), none, none, none]) ?_ (K _ _ (j_end (zA_best hz) hZ1 hZ2 hf2))
    exact j_L
set_option maxRecDepth 20000 in
set_option maxHeartbeats 1000000 in
theorem lc_25 {G : q_G} {s : s_T} {z : z_T} {i C S : Nat} {P : q_R → s_T → Prop} (hI : j_I z s) (hi : i + 5 ≤ G.2.2.1) (hG : G.2.2.1 ≤ 2560) (K : ∀ z1 s1, j_I z1 s1 → s_W G mL_law 20 C S P 2164 [some (.ref 1000000), some (.ref 0), some (.ref 212), some (.ref 234), some (.ref 235), some (.int (nI i)), none, none, none] [] s1) : s_W G mL_law 20 (C + 3) (S + 18) P 1716 [some (.ref 1000000), some (.ref 0), some (.ref 212), some (.ref 234), some (.ref 235), some (.int (nI i)), none, none, none] [] s := by
  obtain ⟨hz, hZ, hM, hO⟩ := hI
  refine r_aload_n dL_law_1716 rfl rfl ?_
  refine r_aload_n dL_law_1717 rfl rfl ?_
  refine r_iload dL_law_1718 rfl ?_
  refine n_const 1 dL_law_1720 (by decide) ?_
  refine n_add dL_law_1721 ?_
  refine r_sld dL_law_1722 (n_bd (by omega) (by omega)) ?_
  refine r_aload_n dL_law_1723 rfl rfl ?_
  refine s_SI mL_reoptimize [.ref 0, .int (G.2.2.2 (nI (i + 1)).toNatClampNeg), .ref 234] dL_law_1724 okL_reoptimize lL_206 npL_reoptimize (by omega) (by omega) (by omega) (Nat.le_of_ble_eq_true rfl) (Nat.le_of_ble_eq_true rfl) rfl (lw_reoptimize hz hZ) (fun y1 s1 hq => ?_)
  obtain ⟨rfl, h4, hv, hZ1, hf1⟩ := hq
  obtain ⟨hM1, hO1⟩ := m_Z_fr hM hO hf1
  refine r_istore dL_law_1727 (by decide) rfl ?_
  refine r_aload_n dL_law_1729 rfl rfl ?_
  refine r_aload_n dL_law_1730 rfl rfl ?_
  refine r_iload dL_law_1731 rfl ?_
  refine n_const 1 dL_law_1733 (by decide) ?_
  refine n_add dL_law_1734 ?_
  refine r_sld dL_law_1735 (n_bd (by omega) (by omega)) ?_
  refine s_VI mX12_reoptimize [.int (G.2.2.2 (nI (i + 1)).toNatClampNeg)] dL_law_1736 okX12_reoptimize lL_208 npX12_reoptimize lysX12 rfl (by omega) (by omega) (by omega) (Nat.le_of_ble_eq_true rfl) (Nat.le_of_ble_eq_true rfl) rfl (m_reoptimize hz hM1 hO1) (fun y2 s2 hq => ?_)
  obtain ⟨hy, ht, hZ2, hf2⟩ := hq
  refine r_istore dL_law_1739 (by decide) rfl ?_
  refine r_aload_n dL_law_1741 rfl rfl ?_
  refine s_VI mX12_thrown [] dL_law_1742 okX12_thrown lL_124 npX12_thrown lysX12 rfl (by omega) (by omega) (by omega) (Nat.le_of_ble_eq_true rfl) (Nat.le_of_ble_eq_true rfl) rfl (m_thrown ht) (fun y3 s3 hq => ?_)
  obtain ⟨e9, rfl⟩ := hq
  replace e9 := e9.symm
  subst e9
  refine r_iload dL_law_1745 rfl ?_
  refine r_icmp_eq (tgt := 1752) dL_law_1747 (by decide) (fun c9 => ?_) (fun c9 => absurd rfl c9)
  refine r_iload dL_law_1752 rfl ?_
  refine n_ifne (tgt := 1769) dL_law_1754 (by decide) (by omega) (fun c9 => ?_) (fun c9 => ?_)
  · refine r_goto (tgt := 2164) dL_law_1769 (by decide) ?_
    refine s_mono (d := 20) (C := C) (S := S) (Nat.le_refl _) (by omega) (by omega) (fun _ _ q => q) ?_
    refine q_W_L (L := [some (.ref 1000000), some (.ref 0), some (.ref 212), some (.ref 234), some (.ref 235), some (.int (nI i)), none, none, none]) ?_ (K _ _ (j_end (zA_reoptimize hz) hZ1 hZ2 hf2))
    exact j_L
  · refine r_aload_n dL_law_1757 rfl rfl ?_
    refine n_const 0 dL_law_1758 (by decide) ?_
    refine s_lald dL_law_1759 ?_
    refine r_iload dL_law_1760 rfl ?_
    refine r_i2l dL_law_1762 rfl ?_
    refine r_lcmp dL_law_1763 ?_
    have e8 : s2 234 0 = y2 := by rw [hf2 234 (by omega), hv c9, hy c9]
    rw [e8, lg_cmp_rf]
    refine r_if_eq (tgt := 1769) dL_law_1764 (by decide) (fun c8 => ?_) (fun c8 => absurd rfl c8)
    refine r_goto (tgt := 2164) dL_law_1769 (by decide) ?_
    refine s_mono (d := 20) (C := C) (S := S) (Nat.le_refl _) (by omega) (by omega) (fun _ _ q => q) ?_
    refine q_W_L (L := [some (.ref 1000000), some (.ref 0), some (.ref 212), some (.ref 234), some (.ref 235), some (.int (nI i)), none, none, none]) ?_ (K _ _ (j_end (zA_reoptimize hz) hZ1 hZ2 hf2))
    exact j_L
set_option maxRecDepth 20000 in
set_option maxHeartbeats 1000000 in
theorem lc_26 {G : q_G} {s : s_T} {z : z_T} {i C S : Nat} {P : q_R → s_T → Prop} (hI : j_I z s) (hi : i + 5 ≤ G.2.2.1) (hG : G.2.2.1 ≤ 2560) (K : ∀ z1 s1, j_I z1 s1 → s_W G mL_law 20 C S P 2164 [some (.ref 1000000), some (.ref 0), some (.ref 212), some (.ref 234), some (.ref 235), some (.int (nI i)), none, none, none] [] s1) : s_W G mL_law 20 (C + 3) (S + 18) P 1772 [some (.ref 1000000), some (.ref 0), some (.ref 212), some (.ref 234), some (.ref 235), some (.int (nI i)), none, none, none] [] s := by
  obtain ⟨hz, hZ, hM, hO⟩ := hI
  refine r_aload_n dL_law_1772 rfl rfl ?_
  refine s_VI mX11_shiftBottlenecks [] dL_law_1773 okX11_shiftBottlenecks lL_209 npX11_shiftBottlenecks lysX11 rfl (by omega) (by omega) (by omega) (Nat.le_of_ble_eq_true rfl) (Nat.le_of_ble_eq_true rfl) rfl (c_P0 rfl (c_shiftBottlenecks hz hZ)) (fun y1 s1 hq => ?_)
  obtain ⟨rfl, hZ1, hf1⟩ := hq
  obtain ⟨hM1, hO1⟩ := m_Z_fr (s1 := s1) hM hO (fun k h1 h2 => hf1 k (by omega))
  refine r_aload_n dL_law_1776 rfl rfl ?_
  refine s_VI mX12_shiftBottlenecks [] dL_law_1777 okX12_shiftBottlenecks lL_212 npX12_shiftBottlenecks lysX12 rfl (by omega) (by omega) (by omega) (Nat.le_of_ble_eq_true rfl) (Nat.le_of_ble_eq_true rfl) rfl (m_shiftBottlenecks hz hM1 hO1) (fun y2 s2 hq => ?_)
  obtain ⟨hy, ht, hZ2, hf2⟩ := hq
  refine r_icmp_eq (tgt := 2164) dL_law_1780 (by decide) (fun c9 => ?_) (fun c9 => absurd (hy rfl).symm c9)
  refine s_mono (d := 20) (C := C) (S := S) (Nat.le_refl _) (by omega) (by omega) (fun _ _ q => q) ?_
  refine q_W_L (L := [some (.ref 1000000), some (.ref 0), some (.ref 212), some (.ref 234), some (.ref 235), some (.int (nI i)), none, none, none]) ?_ (K _ _ (j_end (zA_shiftBottlenecks hz) hZ1 hZ2 hf2))
  exact j_L
set_option maxRecDepth 20000 in
set_option maxHeartbeats 1000000 in
theorem lc_27 {G : q_G} {s : s_T} {z : z_T} {i C S : Nat} {P : q_R → s_T → Prop} (hI : j_I z s) (hi : i + 5 ≤ G.2.2.1) (hG : G.2.2.1 ≤ 2560) (K : ∀ z1 s1, j_I z1 s1 → s_W G mL_law 20 C S P 2164 [some (.ref 1000000), some (.ref 0), some (.ref 212), some (.ref 234), some (.ref 235), some (.int (nI i)), none, none, none] [] s1) : s_W G mL_law 20 (C + 3) (S + 18) P 1785 [some (.ref 1000000), some (.ref 0), some (.ref 212), some (.ref 234), some (.ref 235), some (.int (nI i)), none, none, none] [] s := by
  obtain ⟨hz, hZ, hM, hO⟩ := hI
  refine r_aload_n dL_law_1785 rfl rfl ?_
  refine r_aload_n dL_law_1786 rfl rfl ?_
  refine r_iload dL_law_1787 rfl ?_
  refine n_const 1 dL_law_1789 (by decide) ?_
  refine n_add dL_law_1790 ?_
  refine r_sld dL_law_1791 (n_bd (by omega) (by omega)) ?_
  refine r_aload_n dL_law_1792 rfl rfl ?_
  refine s_SI mL_bottleneck [.ref 0, .int (G.2.2.2 (nI (i + 1)).toNatClampNeg), .ref 234] dL_law_1793 okL_bottleneck lL_213 npL_bottleneck (by omega) (by omega) (by omega) (Nat.le_of_ble_eq_true rfl) (Nat.le_of_ble_eq_true rfl) rfl (lw_bottleneck hz hZ) (fun y1 s1 hq => ?_)
  obtain ⟨rfl, h4, hv, hZ1, hf1⟩ := hq
  obtain ⟨hM1, hO1⟩ := m_Z_fr hM hO hf1
  refine r_istore dL_law_1796 (by decide) rfl ?_
  refine r_aload_n dL_law_1798 rfl rfl ?_
  refine r_aload_n dL_law_1799 rfl rfl ?_
  refine r_iload dL_law_1800 rfl ?_
  refine n_const 1 dL_law_1802 (by decide) ?_
  refine n_add dL_law_1803 ?_
  refine r_sld dL_law_1804 (n_bd (by omega) (by omega)) ?_
  refine s_VI mX12_bottleneck [.int (G.2.2.2 (nI (i + 1)).toNatClampNeg)] dL_law_1805 okX12_bottleneck lL_215 npX12_bottleneck lysX12 rfl (by omega) (by omega) (by omega) (Nat.le_of_ble_eq_true rfl) (Nat.le_of_ble_eq_true rfl) rfl (m_bottleneck hz hM1 hO1) (fun y2 s2 hq => ?_)
  obtain ⟨hy, ht, hZ2, hf2⟩ := hq
  refine r_istore dL_law_1808 (by decide) rfl ?_
  refine r_aload_n dL_law_1810 rfl rfl ?_
  refine s_VI mX12_thrown [] dL_law_1811 okX12_thrown lL_124 npX12_thrown lysX12 rfl (by omega) (by omega) (by omega) (Nat.le_of_ble_eq_true rfl) (Nat.le_of_ble_eq_true rfl) rfl (m_thrown ht) (fun y3 s3 hq => ?_)
  obtain ⟨e9, rfl⟩ := hq
  replace e9 := e9.symm
  subst e9
  refine r_iload dL_law_1814 rfl ?_
  refine r_icmp_eq (tgt := 1821) dL_law_1816 (by decide) (fun c9 => ?_) (fun c9 => absurd rfl c9)
  refine r_iload dL_law_1821 rfl ?_
  refine n_ifne (tgt := 1838) dL_law_1823 (by decide) (by omega) (fun c9 => ?_) (fun c9 => ?_)
  · refine r_goto (tgt := 2164) dL_law_1838 (by decide) ?_
    refine s_mono (d := 20) (C := C) (S := S) (Nat.le_refl _) (by omega) (by omega) (fun _ _ q => q) ?_
    refine q_W_L (L := [some (.ref 1000000), some (.ref 0), some (.ref 212), some (.ref 234), some (.ref 235), some (.int (nI i)), none, none, none]) ?_ (K _ _ (j_end (zA_bottleneck hz) hZ1 hZ2 hf2))
    exact j_L
  · refine r_aload_n dL_law_1826 rfl rfl ?_
    refine n_const 0 dL_law_1827 (by decide) ?_
    refine s_lald dL_law_1828 ?_
    refine r_iload dL_law_1829 rfl ?_
    refine r_i2l dL_law_1831 rfl ?_
    refine r_lcmp dL_law_1832 ?_
    have e8 : s2 234 0 = y2 := by rw [hf2 234 (by omega), hv c9, hy c9]
    rw [e8, lg_cmp_rf]
    refine r_if_eq (tgt := 1838) dL_law_1833 (by decide) (fun c8 => ?_) (fun c8 => absurd rfl c8)
    refine r_goto (tgt := 2164) dL_law_1838 (by decide) ?_
    refine s_mono (d := 20) (C := C) (S := S) (Nat.le_refl _) (by omega) (by omega) (fun _ _ q => q) ?_
    refine q_W_L (L := [some (.ref 1000000), some (.ref 0), some (.ref 212), some (.ref 234), some (.ref 235), some (.int (nI i)), none, none, none]) ?_ (K _ _ (j_end (zA_bottleneck hz) hZ1 hZ2 hf2))
    exact j_L
set_option maxRecDepth 20000 in
set_option maxHeartbeats 1000000 in
theorem lc_28 {G : q_G} {s : s_T} {z : z_T} {i C S : Nat} {P : q_R → s_T → Prop} (hI : j_I z s) (hi : i + 5 ≤ G.2.2.1) (hG : G.2.2.1 ≤ 2560) (K : ∀ z1 s1, j_I z1 s1 → s_W G mL_law 20 C S P 2164 [some (.ref 1000000), some (.ref 0), some (.ref 212), some (.ref 234), some (.ref 235), some (.int (nI i)), none, none, none] [] s1) : s_W G mL_law 20 (C + 3) (S + 18) P 1841 [some (.ref 1000000), some (.ref 0), some (.ref 212), some (.ref 234), some (.ref 235), some (.int (nI i)), none, none, none] [] s := by
  obtain ⟨hz, hZ, hM, hO⟩ := hI
  refine r_aload_n dL_law_1841 rfl rfl ?_
  refine r_aload_n dL_law_1842 rfl rfl ?_
  refine r_iload dL_law_1843 rfl ?_
  refine n_const 1 dL_law_1845 (by decide) ?_
  refine n_add dL_law_1846 ?_
  refine r_sld dL_law_1847 (n_bd (by omega) (by omega)) ?_
  refine r_aload_n dL_law_1848 rfl rfl ?_
  refine r_iload dL_law_1849 rfl ?_
  refine n_const 2 dL_law_1851 (by decide) ?_
  refine n_add dL_law_1852 ?_
  refine r_sld dL_law_1853 (n_bd (by omega) (by omega)) ?_
  refine r_aload_n dL_law_1854 rfl rfl ?_
  refine s_SI mL_tabu [.ref 0, .int (G.2.2.2 (nI (i + 1)).toNatClampNeg), .int (G.2.2.2 (nI (i + 2)).toNatClampNeg), .ref 234] dL_law_1855 okL_tabu lL_216 npL_tabu (by omega) (by omega) (by omega) (Nat.le_of_ble_eq_true rfl) (Nat.le_of_ble_eq_true rfl) rfl (lw_tabu hz hZ) (fun y1 s1 hq => ?_)
  obtain ⟨rfl, h4, hv, hZ1, hf1⟩ := hq
  obtain ⟨hM1, hO1⟩ := m_Z_fr hM hO hf1
  refine r_istore dL_law_1858 (by decide) rfl ?_
  refine r_aload_n dL_law_1860 rfl rfl ?_
  refine r_aload_n dL_law_1861 rfl rfl ?_
  refine r_iload dL_law_1862 rfl ?_
  refine n_const 1 dL_law_1864 (by decide) ?_
  refine n_add dL_law_1865 ?_
  refine r_sld dL_law_1866 (n_bd (by omega) (by omega)) ?_
  refine r_aload_n dL_law_1867 rfl rfl ?_
  refine r_iload dL_law_1868 rfl ?_
  refine n_const 2 dL_law_1870 (by decide) ?_
  refine n_add dL_law_1871 ?_
  refine r_sld dL_law_1872 (n_bd (by omega) (by omega)) ?_
  refine s_VI mX12_tabu [.int (G.2.2.2 (nI (i + 1)).toNatClampNeg), .int (G.2.2.2 (nI (i + 2)).toNatClampNeg)] dL_law_1873 okX12_tabu lL_218 npX12_tabu lysX12 rfl (by omega) (by omega) (by omega) (Nat.le_of_ble_eq_true rfl) (Nat.le_of_ble_eq_true rfl) rfl (m_tabu hz hM1 hO1) (fun y2 s2 hq => ?_)
  obtain ⟨hy, ht, hZ2, hf2⟩ := hq
  refine r_istore dL_law_1876 (by decide) rfl ?_
  refine r_aload_n dL_law_1878 rfl rfl ?_
  refine s_VI mX12_thrown [] dL_law_1879 okX12_thrown lL_124 npX12_thrown lysX12 rfl (by omega) (by omega) (by omega) (Nat.le_of_ble_eq_true rfl) (Nat.le_of_ble_eq_true rfl) rfl (m_thrown ht) (fun y3 s3 hq => ?_)
  obtain ⟨e9, rfl⟩ := hq
  replace e9 := e9.symm
  subst e9
  refine r_iload dL_law_1882 rfl ?_
  refine r_icmp_eq (tgt := 1889) dL_law_1884 (by decide) (fun c9 => ?_) (fun c9 => absurd rfl c9)
  refine r_iload dL_law_1889 rfl ?_
  refine n_ifne (tgt := 1906) dL_law_1891 (by decide) (by omega) (fun c9 => ?_) (fun c9 => ?_)
  · refine r_goto (tgt := 2164) dL_law_1906 (by decide) ?_
    refine s_mono (d := 20) (C := C) (S := S) (Nat.le_refl _) (by omega) (by omega) (fun _ _ q => q) ?_
    refine q_W_L (L := [some (.ref 1000000), some (.ref 0), some (.ref 212), some (.ref 234), some (.ref 235), some (.int (nI i)), none, none, none]) ?_ (K _ _ (j_end (zA_tabu hz) hZ1 hZ2 hf2))
    exact j_L
  · refine r_aload_n dL_law_1894 rfl rfl ?_
    refine n_const 0 dL_law_1895 (by decide) ?_
    refine s_lald dL_law_1896 ?_
    refine r_iload dL_law_1897 rfl ?_
    refine r_i2l dL_law_1899 rfl ?_
    refine r_lcmp dL_law_1900 ?_
    have e8 : s2 234 0 = y2 := by rw [hf2 234 (by omega), hv c9, hy c9]
    rw [e8, lg_cmp_rf]
    refine r_if_eq (tgt := 1906) dL_law_1901 (by decide) (fun c8 => ?_) (fun c8 => absurd rfl c8)
    refine r_goto (tgt := 2164) dL_law_1906 (by decide) ?_
    refine s_mono (d := 20) (C := C) (S := S) (Nat.le_refl _) (by omega) (by omega) (fun _ _ q => q) ?_
    refine q_W_L (L := [some (.ref 1000000), some (.ref 0), some (.ref 212), some (.ref 234), some (.ref 235), some (.int (nI i)), none, none, none]) ?_ (K _ _ (j_end (zA_tabu hz) hZ1 hZ2 hf2))
    exact j_L
set_option maxRecDepth 20000 in
set_option maxHeartbeats 1000000 in
theorem lc_29 {G : q_G} {s : s_T} {z : z_T} {i C S : Nat} {P : q_R → s_T → Prop} (hI : j_I z s) (hi : i + 5 ≤ G.2.2.1) (hG : G.2.2.1 ≤ 2560) (K : ∀ z1 s1, j_I z1 s1 → s_W G mL_law 20 C S P 2164 [some (.ref 1000000), some (.ref 0), some (.ref 212), some (.ref 234), some (.ref 235), some (.int (nI i)), none, none, none] [] s1) : s_W G mL_law 20 (C + 3) (S + 18) P 1909 [some (.ref 1000000), some (.ref 0), some (.ref 212), some (.ref 234), some (.ref 235), some (.int (nI i)), none, none, none] [] s := by
  obtain ⟨hz, hZ, hM, hO⟩ := hI
  refine r_aload_n dL_law_1909 rfl rfl ?_
  refine s_VI mX11_tabuSteps [] dL_law_1910 okX11_tabuSteps lL_219 npX11_tabuSteps lysX11 rfl (by omega) (by omega) (by omega) (Nat.le_of_ble_eq_true rfl) (Nat.le_of_ble_eq_true rfl) rfl (c_P0 rfl (c_tabuSteps hz hZ)) (fun y1 s1 hq => ?_)
  obtain ⟨rfl, hZ1, hf1⟩ := hq
  obtain ⟨hM1, hO1⟩ := m_Z_fr (s1 := s1) hM hO (fun k h1 h2 => hf1 k (by omega))
  refine r_aload_n dL_law_1913 rfl rfl ?_
  refine s_VI mX12_tabuSteps [] dL_law_1914 okX12_tabuSteps lL_222 npX12_tabuSteps lysX12 rfl (by omega) (by omega) (by omega) (Nat.le_of_ble_eq_true rfl) (Nat.le_of_ble_eq_true rfl) rfl (m_tabuSteps hz hM1 hO1) (fun y2 s2 hq => ?_)
  obtain ⟨hy, ht, hZ2, hf2⟩ := hq
  refine r_icmp_eq (tgt := 2164) dL_law_1917 (by decide) (fun c9 => ?_) (fun c9 => absurd (hy rfl).symm c9)
  refine s_mono (d := 20) (C := C) (S := S) (Nat.le_refl _) (by omega) (by omega) (fun _ _ q => q) ?_
  refine q_W_L (L := [some (.ref 1000000), some (.ref 0), some (.ref 212), some (.ref 234), some (.ref 235), some (.int (nI i)), none, none, none]) ?_ (K _ _ (j_end (zA_tabuSteps hz) hZ1 hZ2 hf2))
  exact j_L
set_option maxRecDepth 20000 in
set_option maxHeartbeats 1000000 in
theorem lc_30 {G : q_G} {s : s_T} {z : z_T} {i C S : Nat} {P : q_R → s_T → Prop} (hI : j_I z s) (hi : i + 5 ≤ G.2.2.1) (hG : G.2.2.1 ≤ 2560) (K : ∀ z1 s1, j_I z1 s1 → s_W G mL_law 20 C S P 2164 [some (.ref 1000000), some (.ref 0), some (.ref 212), some (.ref 234), some (.ref 235), some (.int (nI i)), none, none, none] [] s1) : s_W G mL_law 20 (C + 3) (S + 18) P 1922 [some (.ref 1000000), some (.ref 0), some (.ref 212), some (.ref 234), some (.ref 235), some (.int (nI i)), none, none, none] [] s := by
  obtain ⟨hz, hZ, hM, hO⟩ := hI
  refine r_aload_n dL_law_1922 rfl rfl ?_
  refine r_aload_n dL_law_1923 rfl rfl ?_
  refine r_iload dL_law_1924 rfl ?_
  refine n_const 1 dL_law_1926 (by decide) ?_
  refine n_add dL_law_1927 ?_
  refine r_sld dL_law_1928 (n_bd (by omega) (by omega)) ?_
  refine r_aload_n dL_law_1929 rfl rfl ?_
  refine s_SI mL_bound [.ref 0, .int (G.2.2.2 (nI (i + 1)).toNatClampNeg), .ref 234] dL_law_1930 okL_bound lL_223 npL_bound (by omega) (by omega) (by omega) (Nat.le_of_ble_eq_true rfl) (Nat.le_of_ble_eq_true rfl) rfl (lw_bound hz hZ) (fun y1 s1 hq => ?_)
  obtain ⟨rfl, h4, hv, hZ1, hf1⟩ := hq
  obtain ⟨hM1, hO1⟩ := m_Z_fr hM hO hf1
  refine r_istore dL_law_1933 (by decide) rfl ?_
  refine r_aload_n dL_law_1935 rfl rfl ?_
  refine r_aload_n dL_law_1936 rfl rfl ?_
  refine r_iload dL_law_1937 rfl ?_
  refine n_const 1 dL_law_1939 (by decide) ?_
  refine n_add dL_law_1940 ?_
  refine r_sld dL_law_1941 (n_bd (by omega) (by omega)) ?_
  refine s_VI mX12_bound [.int (G.2.2.2 (nI (i + 1)).toNatClampNeg)] dL_law_1942 okX12_bound lL_225 npX12_bound lysX12 rfl (by omega) (by omega) (by omega) (Nat.le_of_ble_eq_true rfl) (Nat.le_of_ble_eq_true rfl) rfl (m_bound hz hM1 hO1) (fun y2 s2 hq => ?_)
  obtain ⟨hy, ht, hZ2, hf2⟩ := hq
  refine r_istore dL_law_1945 (by decide) rfl ?_
  refine r_aload_n dL_law_1947 rfl rfl ?_
  refine s_VI mX12_thrown [] dL_law_1948 okX12_thrown lL_124 npX12_thrown lysX12 rfl (by omega) (by omega) (by omega) (Nat.le_of_ble_eq_true rfl) (Nat.le_of_ble_eq_true rfl) rfl (m_thrown ht) (fun y3 s3 hq => ?_)
  obtain ⟨e9, rfl⟩ := hq
  replace e9 := e9.symm
  subst e9
  refine r_iload dL_law_1951 rfl ?_
  refine r_icmp_eq (tgt := 1958) dL_law_1953 (by decide) (fun c9 => ?_) (fun c9 => absurd rfl c9)
  refine r_iload dL_law_1958 rfl ?_
  refine n_ifne (tgt := 1975) dL_law_1960 (by decide) (by omega) (fun c9 => ?_) (fun c9 => ?_)
  · refine r_goto (tgt := 2164) dL_law_1975 (by decide) ?_
    refine s_mono (d := 20) (C := C) (S := S) (Nat.le_refl _) (by omega) (by omega) (fun _ _ q => q) ?_
    refine q_W_L (L := [some (.ref 1000000), some (.ref 0), some (.ref 212), some (.ref 234), some (.ref 235), some (.int (nI i)), none, none, none]) ?_ (K _ _ (j_end (zA_bound hz) hZ1 hZ2 hf2))
    exact j_L
  · refine r_aload_n dL_law_1963 rfl rfl ?_
    refine n_const 0 dL_law_1964 (by decide) ?_
    refine s_lald dL_law_1965 ?_
    refine r_iload dL_law_1966 rfl ?_
    refine r_i2l dL_law_1968 rfl ?_
    refine r_lcmp dL_law_1969 ?_
    have e8 : s2 234 0 = y2 := by rw [hf2 234 (by omega), hv c9, hy c9]
    rw [e8, lg_cmp_rf]
    refine r_if_eq (tgt := 1975) dL_law_1970 (by decide) (fun c8 => ?_) (fun c8 => absurd rfl c8)
    refine r_goto (tgt := 2164) dL_law_1975 (by decide) ?_
    refine s_mono (d := 20) (C := C) (S := S) (Nat.le_refl _) (by omega) (by omega) (fun _ _ q => q) ?_
    refine q_W_L (L := [some (.ref 1000000), some (.ref 0), some (.ref 212), some (.ref 234), some (.ref 235), some (.int (nI i)), none, none, none]) ?_ (K _ _ (j_end (zA_bound hz) hZ1 hZ2 hf2))
    exact j_L
set_option maxRecDepth 20000 in
set_option maxHeartbeats 1000000 in
theorem lc_31 {G : q_G} {s : s_T} {z : z_T} {i C S : Nat} {P : q_R → s_T → Prop} (hI : j_I z s) (hi : i + 5 ≤ G.2.2.1) (hG : G.2.2.1 ≤ 2560) (K : ∀ z1 s1, j_I z1 s1 → s_W G mL_law 20 C S P 2164 [some (.ref 1000000), some (.ref 0), some (.ref 212), some (.ref 234), some (.ref 235), some (.int (nI i)), none, none, none] [] s1) : s_W G mL_law 20 (C + 3) (S + 18) P 1978 [some (.ref 1000000), some (.ref 0), some (.ref 212), some (.ref 234), some (.ref 235), some (.int (nI i)), none, none, none] [] s := by
  obtain ⟨hz, hZ, hM, hO⟩ := hI
  refine r_aload_n dL_law_1978 rfl rfl ?_
  refine s_VI mX11_lowerBound [] dL_law_1979 okX11_lowerBound lL_226 npX11_lowerBound lysX11 rfl (by omega) (by omega) (by omega) (Nat.le_of_ble_eq_true rfl) (Nat.le_of_ble_eq_true rfl) rfl (c_P0 rfl (c_lowerBound hz hZ)) (fun y1 s1 hq => ?_)
  obtain ⟨rfl, hZ1, hf1⟩ := hq
  obtain ⟨hM1, hO1⟩ := m_Z_fr (s1 := s1) hM hO (fun k h1 h2 => hf1 k (by omega))
  refine r_aload_n dL_law_1982 rfl rfl ?_
  refine s_VI mX12_lowerBound [] dL_law_1983 okX12_lowerBound lL_229 npX12_lowerBound lysX12 rfl (by omega) (by omega) (by omega) (Nat.le_of_ble_eq_true rfl) (Nat.le_of_ble_eq_true rfl) rfl (m_lowerBound hz hM1 hO1) (fun y2 s2 hq => ?_)
  obtain ⟨hy, ht, hZ2, hf2⟩ := hq
  refine r_icmp_eq (tgt := 2164) dL_law_1986 (by decide) (fun c9 => ?_) (fun c9 => absurd (hy rfl).symm c9)
  refine s_mono (d := 20) (C := C) (S := S) (Nat.le_refl _) (by omega) (by omega) (fun _ _ q => q) ?_
  refine q_W_L (L := [some (.ref 1000000), some (.ref 0), some (.ref 212), some (.ref 234), some (.ref 235), some (.int (nI i)), none, none, none]) ?_ (K _ _ (j_end (zA_lowerBound hz) hZ1 hZ2 hf2))
  exact j_L
set_option maxRecDepth 20000 in
set_option maxHeartbeats 1000000 in
theorem lc_32 {G : q_G} {s : s_T} {z : z_T} {i C S : Nat} {P : q_R → s_T → Prop} (hI : j_I z s) (hi : i + 5 ≤ G.2.2.1) (hG : G.2.2.1 ≤ 2560) (K : ∀ z1 s1, j_I z1 s1 → s_W G mL_law 20 C S P 2164 [some (.ref 1000000), some (.ref 0), some (.ref 212), some (.ref 234), some (.ref 235), some (.int (nI i)), none, none, none] [] s1) : s_W G mL_law 20 (C + 3) (S + 18) P 1991 [some (.ref 1000000), some (.ref 0), some (.ref 212), some (.ref 234), some (.ref 235), some (.int (nI i)), none, none, none] [] s := by
  obtain ⟨hz, hZ, hM, hO⟩ := hI
  refine r_aload_n dL_law_1991 rfl rfl ?_
  refine r_aload_n dL_law_1992 rfl rfl ?_
  refine r_iload dL_law_1993 rfl ?_
  refine n_const 1 dL_law_1995 (by decide) ?_
  refine n_add dL_law_1996 ?_
  refine r_sld dL_law_1997 (n_bd (by omega) (by omega)) ?_
  refine r_i2c dL_law_1998 (i2c_n _) ?_
  refine s_SI mL_append [.ref 0, .int (nI (jC (G.2.2.2 (nI (i + 1)).toNatClampNeg)))] dL_law_1999 okL_append lL_230 npL_append (by omega) (by omega) (by omega) (Nat.le_of_ble_eq_true rfl) (Nat.le_of_ble_eq_true rfl) rfl (lw_append hz hZ (jC_lt _)) (fun y1 s1 hq => ?_)
  obtain ⟨rfl, h4, hZ1, hf1⟩ := hq
  obtain ⟨hM1, hO1⟩ := m_Z_fr hM hO hf1
  refine r_istore dL_law_2002 (by decide) rfl ?_
  refine r_aload_n dL_law_2004 rfl rfl ?_
  refine r_aload_n dL_law_2005 rfl rfl ?_
  refine r_iload dL_law_2006 rfl ?_
  refine n_const 1 dL_law_2008 (by decide) ?_
  refine n_add dL_law_2009 ?_
  refine r_sld dL_law_2010 (n_bd (by omega) (by omega)) ?_
  refine r_i2c dL_law_2011 (i2c_n _) ?_
  refine s_VV mX12_append [.int (nI (jC (G.2.2.2 (nI (i + 1)).toNatClampNeg)))] dL_law_2012 okX12_append lL_233 npX12_append lysX12 rfl (by omega) (by omega) (by omega) (Nat.le_of_ble_eq_true rfl) (Nat.le_of_ble_eq_true rfl) rfl (m_append hz hM1 hO1 (jC_lt _)) (fun s2 hq => ?_)
  obtain ⟨ht, hZ2, hf2⟩ := hq
  refine r_aload_n dL_law_2015 rfl rfl ?_
  refine s_VI mX12_thrown [] dL_law_2016 okX12_thrown lL_124 npX12_thrown lysX12 rfl (by omega) (by omega) (by omega) (Nat.le_of_ble_eq_true rfl) (Nat.le_of_ble_eq_true rfl) rfl (m_thrown ht) (fun y3 s3 hq => ?_)
  obtain ⟨e9, rfl⟩ := hq
  replace e9 := e9.symm
  subst e9
  refine r_iload dL_law_2019 rfl ?_
  refine r_icmp_eq (tgt := 2026) dL_law_2021 (by decide) (fun c9 => ?_) (fun c9 => absurd rfl c9)
  refine r_goto (tgt := 2164) dL_law_2026 (by decide) ?_
  refine s_mono (d := 20) (C := C) (S := S) (Nat.le_refl _) (by omega) (by omega) (fun _ _ q => q) ?_
  refine q_W_L (L := [some (.ref 1000000), some (.ref 0), some (.ref 212), some (.ref 234), some (.ref 235), some (.int (nI i)), none, none, none]) ?_ (K _ _ (j_end (zA_append hz (jC_lt _)) hZ1 hZ2 hf2))
  exact j_L
set_option maxRecDepth 20000 in
set_option maxHeartbeats 1000000 in
theorem lc_33 {G : q_G} {s : s_T} {z : z_T} {i C S : Nat} {P : q_R → s_T → Prop} (hI : j_I z s) (hi : i + 5 ≤ G.2.2.1) (hG : G.2.2.1 ≤ 2560) (K : ∀ z1 s1, j_I z1 s1 → s_W G mL_law 20 C S P 2164 [some (.ref 1000000), some (.ref 0), some (.ref 212), some (.ref 234), some (.ref 235), some (.int (nI i)), none, none, none] [] s1) : s_W G mL_law 20 (C + 3) (S + 18) P 2029 [some (.ref 1000000), some (.ref 0), some (.ref 212), some (.ref 234), some (.ref 235), some (.int (nI i)), none, none, none] [] s := by
  obtain ⟨hz, hZ, hM, hO⟩ := hI
  refine r_aload_n dL_law_2029 rfl rfl ?_
  refine r_aload_n dL_law_2030 rfl rfl ?_
  refine s_SI mL_read [.ref 0, .ref 234] dL_law_2031 okL_read lL_234 npL_read (by omega) (by omega) (by omega) (Nat.le_of_ble_eq_true rfl) (Nat.le_of_ble_eq_true rfl) rfl (lw_read hz hZ) (fun y1 s1 hq => ?_)
  obtain ⟨rfl, h4, hv, hZ1, hf1⟩ := hq
  obtain ⟨hM1, hO1⟩ := m_Z_fr hM hO hf1
  refine r_istore dL_law_2034 (by decide) rfl ?_
  refine r_aload_n dL_law_2036 rfl rfl ?_
  refine s_VI mX12_read [] dL_law_2037 okX12_read lL_237 npX12_read lysX12 rfl (by omega) (by omega) (by omega) (Nat.le_of_ble_eq_true rfl) (Nat.le_of_ble_eq_true rfl) rfl (m_read hz hM1 hO1) (fun y2 s2 hq => ?_)
  obtain ⟨hy, ht, hZ2, hf2⟩ := hq
  refine r_istore dL_law_2040 (by decide) rfl ?_
  refine r_aload_n dL_law_2042 rfl rfl ?_
  refine s_VI mX12_thrown [] dL_law_2043 okX12_thrown lL_124 npX12_thrown lysX12 rfl (by omega) (by omega) (by omega) (Nat.le_of_ble_eq_true rfl) (Nat.le_of_ble_eq_true rfl) rfl (m_thrown ht) (fun y3 s3 hq => ?_)
  obtain ⟨e9, rfl⟩ := hq
  replace e9 := e9.symm
  subst e9
  refine r_iload dL_law_2046 rfl ?_
  refine r_icmp_eq (tgt := 2053) dL_law_2048 (by decide) (fun c9 => ?_) (fun c9 => absurd rfl c9)
  refine r_iload dL_law_2053 rfl ?_
  refine n_ifne (tgt := 2070) dL_law_2055 (by decide) (by omega) (fun c9 => ?_) (fun c9 => ?_)
  · refine r_goto (tgt := 2164) dL_law_2070 (by decide) ?_
    refine s_mono (d := 20) (C := C) (S := S) (Nat.le_refl _) (by omega) (by omega) (fun _ _ q => q) ?_
    refine q_W_L (L := [some (.ref 1000000), some (.ref 0), some (.ref 212), some (.ref 234), some (.ref 235), some (.int (nI i)), none, none, none]) ?_ (K _ _ (j_end (zA_read hz) hZ1 hZ2 hf2))
    exact j_L
  · refine r_aload_n dL_law_2058 rfl rfl ?_
    refine n_const 0 dL_law_2059 (by decide) ?_
    refine s_lald dL_law_2060 ?_
    refine r_iload dL_law_2061 rfl ?_
    refine r_i2l dL_law_2063 rfl ?_
    refine r_lcmp dL_law_2064 ?_
    have e8 : s2 234 0 = y2 := by rw [hf2 234 (by omega), hv c9, hy c9]
    rw [e8, lg_cmp_rf]
    refine r_if_eq (tgt := 2070) dL_law_2065 (by decide) (fun c8 => ?_) (fun c8 => absurd rfl c8)
    refine r_goto (tgt := 2164) dL_law_2070 (by decide) ?_
    refine s_mono (d := 20) (C := C) (S := S) (Nat.le_refl _) (by omega) (by omega) (fun _ _ q => q) ?_
    refine q_W_L (L := [some (.ref 1000000), some (.ref 0), some (.ref 212), some (.ref 234), some (.ref 235), some (.int (nI i)), none, none, none]) ?_ (K _ _ (j_end (zA_read hz) hZ1 hZ2 hf2))
    exact j_L
set_option maxRecDepth 20000 in
set_option maxHeartbeats 1000000 in
theorem lc_34 {G : q_G} {s : s_T} {z : z_T} {i C S : Nat} {P : q_R → s_T → Prop} (hI : j_I z s) (hi : i + 5 ≤ G.2.2.1) (hG : G.2.2.1 ≤ 2560) (K : ∀ z1 s1, j_I z1 s1 → s_W G mL_law 20 C S P 2164 [some (.ref 1000000), some (.ref 0), some (.ref 212), some (.ref 234), some (.ref 235), some (.int (nI i)), none, none, none] [] s1) : s_W G mL_law 20 (C + 3) (S + 18) P 2073 [some (.ref 1000000), some (.ref 0), some (.ref 212), some (.ref 234), some (.ref 235), some (.int (nI i)), none, none, none] [] s := by
  obtain ⟨hz, hZ, hM, hO⟩ := hI
  refine r_aload_n dL_law_2073 rfl rfl ?_
  refine r_aload_n dL_law_2074 rfl rfl ?_
  refine r_iload dL_law_2075 rfl ?_
  refine n_const 1 dL_law_2077 (by decide) ?_
  refine n_add dL_law_2078 ?_
  refine r_sld dL_law_2079 (n_bd (by omega) (by omega)) ?_
  refine r_aload_n dL_law_2080 rfl rfl ?_
  refine s_SI mL_failure [.ref 0, .int (G.2.2.2 (nI (i + 1)).toNatClampNeg), .ref 234] dL_law_2081 okL_failure lL_238 npL_failure (by omega) (by omega) (by omega) (Nat.le_of_ble_eq_true rfl) (Nat.le_of_ble_eq_true rfl) rfl (lw_failure hz hZ) (fun y1 s1 hq => ?_)
  obtain ⟨rfl, h4, hv, hZ1, hf1⟩ := hq
  obtain ⟨hM1, hO1⟩ := m_Z_fr hM hO hf1
  refine r_istore dL_law_2084 (by decide) rfl ?_
  refine r_aload_n dL_law_2086 rfl rfl ?_
  refine r_aload_n dL_law_2087 rfl rfl ?_
  refine r_iload dL_law_2088 rfl ?_
  refine n_const 1 dL_law_2090 (by decide) ?_
  refine n_add dL_law_2091 ?_
  refine r_sld dL_law_2092 (n_bd (by omega) (by omega)) ?_
  refine s_VI mX12_failure [.int (G.2.2.2 (nI (i + 1)).toNatClampNeg)] dL_law_2093 okX12_failure lL_240 npX12_failure lysX12 rfl (by omega) (by omega) (by omega) (Nat.le_of_ble_eq_true rfl) (Nat.le_of_ble_eq_true rfl) rfl (m_failure hz hM1 hO1) (fun y2 s2 hq => ?_)
  obtain ⟨hy, ht, hZ2, hf2⟩ := hq
  refine r_istore dL_law_2096 (by decide) rfl ?_
  refine r_aload_n dL_law_2098 rfl rfl ?_
  refine s_VI mX12_thrown [] dL_law_2099 okX12_thrown lL_124 npX12_thrown lysX12 rfl (by omega) (by omega) (by omega) (Nat.le_of_ble_eq_true rfl) (Nat.le_of_ble_eq_true rfl) rfl (m_thrown ht) (fun y3 s3 hq => ?_)
  obtain ⟨e9, rfl⟩ := hq
  replace e9 := e9.symm
  subst e9
  refine r_iload dL_law_2102 rfl ?_
  refine r_icmp_eq (tgt := 2109) dL_law_2104 (by decide) (fun c9 => ?_) (fun c9 => absurd rfl c9)
  refine r_iload dL_law_2109 rfl ?_
  refine n_ifne (tgt := 2126) dL_law_2111 (by decide) (by omega) (fun c9 => ?_) (fun c9 => ?_)
  · refine r_goto (tgt := 2164) dL_law_2126 (by decide) ?_
    refine s_mono (d := 20) (C := C) (S := S) (Nat.le_refl _) (by omega) (by omega) (fun _ _ q => q) ?_
    refine q_W_L (L := [some (.ref 1000000), some (.ref 0), some (.ref 212), some (.ref 234), some (.ref 235), some (.int (nI i)), none, none, none]) ?_ (K _ _ (j_end (zA_failure hz) hZ1 hZ2 hf2))
    exact j_L
  · refine r_aload_n dL_law_2114 rfl rfl ?_
    refine n_const 0 dL_law_2115 (by decide) ?_
    refine s_lald dL_law_2116 ?_
    refine r_iload dL_law_2117 rfl ?_
    refine r_i2l dL_law_2119 rfl ?_
    refine r_lcmp dL_law_2120 ?_
    have e8 : s2 234 0 = y2 := by rw [hf2 234 (by omega), hv c9, hy c9]
    rw [e8, lg_cmp_rf]
    refine r_if_eq (tgt := 2126) dL_law_2121 (by decide) (fun c8 => ?_) (fun c8 => absurd rfl c8)
    refine r_goto (tgt := 2164) dL_law_2126 (by decide) ?_
    refine s_mono (d := 20) (C := C) (S := S) (Nat.le_refl _) (by omega) (by omega) (fun _ _ q => q) ?_
    refine q_W_L (L := [some (.ref 1000000), some (.ref 0), some (.ref 212), some (.ref 234), some (.ref 235), some (.int (nI i)), none, none, none]) ?_ (K _ _ (j_end (zA_failure hz) hZ1 hZ2 hf2))
    exact j_L
set_option maxRecDepth 20000 in
set_option maxHeartbeats 1000000 in
theorem lc_35 {G : q_G} {s : s_T} {z : z_T} {i C S : Nat} {P : q_R → s_T → Prop} (hI : j_I z s) (hi : i + 5 ≤ G.2.2.1) (hG : G.2.2.1 ≤ 2560) (K : ∀ z1 s1, j_I z1 s1 → s_W G mL_law 20 C S P 2164 [some (.ref 1000000), some (.ref 0), some (.ref 212), some (.ref 234), some (.ref 235), some (.int (nI i)), none, none, none] [] s1) : s_W G mL_law 20 (C + 3) (S + 18) P 2129 [some (.ref 1000000), some (.ref 0), some (.ref 212), some (.ref 234), some (.ref 235), some (.int (nI i)), none, none, none] [] s := by
  obtain ⟨hz, hZ, hM, hO⟩ := hI
  refine r_aload_n dL_law_2129 rfl rfl ?_
  refine s_VV mX11_save [] dL_law_2130 okX11_save lL_241 npX11_save lysX11 rfl (by omega) (by omega) (by omega) (Nat.le_of_ble_eq_true rfl) (Nat.le_of_ble_eq_true rfl) rfl (c_P0v rfl (c_save hz hZ)) (fun s1 hq => ?_)
  obtain ⟨hZ1, hf1⟩ := hq
  obtain ⟨hM1, hO1⟩ := m_Z_fr (s1 := s1) hM hO (fun k h1 h2 => hf1 k (by omega))
  refine r_aload_n dL_law_2133 rfl rfl ?_
  refine s_VV mX12_save [] dL_law_2134 okX12_save lL_244 npX12_save lysX12 rfl (by omega) (by omega) (by omega) (Nat.le_of_ble_eq_true rfl) (Nat.le_of_ble_eq_true rfl) rfl (m_save hz hM1 hO1) (fun s2 hq => ?_)
  obtain ⟨ht, hZ2, hf2⟩ := hq
  refine r_goto (tgt := 2164) dL_law_2137 (by decide) ?_
  refine s_mono (d := 20) (C := C) (S := S) (Nat.le_refl _) (by omega) (by omega) (fun _ _ q => q) ?_
  refine q_W_L (L := [some (.ref 1000000), some (.ref 0), some (.ref 212), some (.ref 234), some (.ref 235), some (.int (nI i)), none, none, none]) ?_ (K _ _ (j_end (zA_save hz) hZ1 hZ2 hf2))
  exact j_L
set_option maxRecDepth 20000 in
set_option maxHeartbeats 1000000 in
theorem lc_36 {G : q_G} {s : s_T} {z : z_T} {i C S : Nat} {P : q_R → s_T → Prop} (hI : j_I z s) (hi : i + 5 ≤ G.2.2.1) (hG : G.2.2.1 ≤ 2560) (K : ∀ z1 s1, j_I z1 s1 → s_W G mL_law 20 C S P 2164 [some (.ref 1000000), some (.ref 0), some (.ref 212), some (.ref 234), some (.ref 235), some (.int (nI i)), none, none, none] [] s1) : s_W G mL_law 20 (C + 3) (S + 18) P 2140 [some (.ref 1000000), some (.ref 0), some (.ref 212), some (.ref 234), some (.ref 235), some (.int (nI i)), none, none, none] [] s := by
  obtain ⟨hz, hZ, hM, hO⟩ := hI
  refine r_aload_n dL_law_2140 rfl rfl ?_
  refine s_SI mL_restore [.ref 0] dL_law_2141 okL_restore lL_245 npL_restore (by omega) (by omega) (by omega) (Nat.le_of_ble_eq_true rfl) (Nat.le_of_ble_eq_true rfl) rfl (lw_restore hz hZ) (fun y1 s1 hq => ?_)
  obtain ⟨rfl, h4, hZ1, hf1⟩ := hq
  obtain ⟨hM1, hO1⟩ := m_Z_fr hM hO hf1
  refine r_istore dL_law_2144 (by decide) rfl ?_
  refine r_aload_n dL_law_2146 rfl rfl ?_
  refine s_VV mX12_restore [] dL_law_2147 okX12_restore lL_248 npX12_restore lysX12 rfl (by omega) (by omega) (by omega) (Nat.le_of_ble_eq_true rfl) (Nat.le_of_ble_eq_true rfl) rfl (m_restore hz hM1 hO1) (fun s2 hq => ?_)
  obtain ⟨ht, hZ2, hf2⟩ := hq
  refine r_aload_n dL_law_2150 rfl rfl ?_
  refine s_VI mX12_thrown [] dL_law_2151 okX12_thrown lL_124 npX12_thrown lysX12 rfl (by omega) (by omega) (by omega) (Nat.le_of_ble_eq_true rfl) (Nat.le_of_ble_eq_true rfl) rfl (m_thrown ht) (fun y3 s3 hq => ?_)
  obtain ⟨e9, rfl⟩ := hq
  replace e9 := e9.symm
  subst e9
  refine r_iload dL_law_2154 rfl ?_
  refine r_icmp_eq (tgt := 2161) dL_law_2156 (by decide) (fun c9 => ?_) (fun c9 => absurd rfl c9)
  refine r_goto (tgt := 2164) dL_law_2161 (by decide) ?_
  refine s_mono (d := 20) (C := C) (S := S) (Nat.le_refl _) (by omega) (by omega) (fun _ _ q => q) ?_
  refine q_W_L (L := [some (.ref 1000000), some (.ref 0), some (.ref 212), some (.ref 234), some (.ref 235), some (.int (nI i)), none, none, none]) ?_ (K _ _ (j_end (zA_restore hz) hZ1 hZ2 hf2))
  exact j_L
