section QR1
variable {G : q_G} {M : q_M} {d C S : Nat} {Post : q_R → Nat → q_H → Prop} {pc : Nat} {L : List (Option Value)} {st : List Value} {n : Nat} {h : q_H}
theorem r_iconst {z : Int} {v : Int32} (dc : decode M.2.2.1 pc = .ok (.iconst z, 1)) (hv : Int32.ofInt z = v) (K : q_W G M d C S Post (pc + 1) L (.int v :: st) n h) : q_W G M d C S Post pc L st n h := by
  intro p l e R s m args below meth c H locs cells slots ls A ad ad0 n0 hF hS hn hc hl hst hL
  exact lv_iconst hF.1 hF.2.1 dc hv (K p l e R s m args below meth c H locs cells slots ls A ad ad0 n0 hF hS hn hc hl (q_os_c q_ov_i hst) hL)
theorem r_bipush {z : Int} {v : Int32} (dc : decode M.2.2.1 pc = .ok (.bipush z, 2)) (hv : (Int8.ofInt z).toInt32 = v) (K : q_W G M d C S Post (pc + 2) L (.int v :: st) n h) : q_W G M d C S Post pc L st n h := by
  intro p l e R s m args below meth c H locs cells slots ls A ad ad0 n0 hF hS hn hc hl hst hL
  exact lv_bipush hF.1 hF.2.1 dc hv (K p l e R s m args below meth c H locs cells slots ls A ad ad0 n0 hF hS hn hc hl (q_os_c q_ov_i hst) hL)
theorem r_sipush {z : Int} {v : Int32} (dc : decode M.2.2.1 pc = .ok (.sipush z, 3)) (hv : (Int16.ofInt z).toInt32 = v) (K : q_W G M d C S Post (pc + 3) L (.int v :: st) n h) : q_W G M d C S Post pc L st n h := by
  intro p l e R s m args below meth c H locs cells slots ls A ad ad0 n0 hF hS hn hc hl hst hL
  exact lv_sipush hF.1 hF.2.1 dc hv (K p l e R s m args below meth c H locs cells slots ls A ad ad0 n0 hF hS hn hc hl (q_os_c q_ov_i hst) hL)
theorem r_lconst {z : Fin 2} {v : Int64} (dc : decode M.2.2.1 pc = .ok (.lconst z, 1)) (hv : Int64.ofNat (z : Nat) = v) (K : q_W G M d C S Post (pc + 1) L (.long v :: st) n h) : q_W G M d C S Post pc L st n h := by
  intro p l e R s m args below meth c H locs cells slots ls A ad ad0 n0 hF hS hn hc hl hst hL
  exact lv_lconst hF.1 hF.2.1 dc hv (K p l e R s m args below meth c H locs cells slots ls A ad ad0 n0 hF hS hn hc hl (q_os_c q_ov_l hst) hL)
theorem r_iload_n {z : Fin 4} {i : Nat} {x : Int32} (dc : decode M.2.2.1 pc = .ok (.iload_n z, 1)) (hi : (z : Nat) = i) (hv : L[i]? = some (some (.int x))) (K : q_W G M d C S Post (pc + 1) L (.int x :: st) n h) : q_W G M d C S Post pc L st n h := by
  intro p l e R s m args below meth c H locs cells slots ls A ad ad0 n0 hF hS hn hc hl hst hL
  exact lv_iload_n hF.1 hF.2.1 dc hi (hl.2.2 i _ hv) (K p l e R s m args below meth c H locs cells slots ls A ad ad0 n0 hF hS hn hc hl (q_os_c q_ov_i hst) hL)
theorem r_iload {i : Nat} {x : Int32} (dc : decode M.2.2.1 pc = .ok (.iload i, 2)) (hv : L[i]? = some (some (.int x))) (K : q_W G M d C S Post (pc + 2) L (.int x :: st) n h) : q_W G M d C S Post pc L st n h := by
  intro p l e R s m args below meth c H locs cells slots ls A ad ad0 n0 hF hS hn hc hl hst hL
  exact lv_iload hF.1 hF.2.1 dc (hl.2.2 i _ hv) (K p l e R s m args below meth c H locs cells slots ls A ad ad0 n0 hF hS hn hc hl (q_os_c q_ov_i hst) hL)
theorem r_lload_n {z : Fin 4} {i : Nat} {x : Int64} (dc : decode M.2.2.1 pc = .ok (.lload_n z, 1)) (hi : (z : Nat) = i) (hv : L[i]? = some (some (.long x))) (K : q_W G M d C S Post (pc + 1) L (.long x :: st) n h) : q_W G M d C S Post pc L st n h := by
  intro p l e R s m args below meth c H locs cells slots ls A ad ad0 n0 hF hS hn hc hl hst hL
  exact lv_lload_n hF.1 hF.2.1 dc hi (hl.2.2 i _ hv) (K p l e R s m args below meth c H locs cells slots ls A ad ad0 n0 hF hS hn hc hl (q_os_c q_ov_l hst) hL)
theorem r_lload {i : Nat} {x : Int64} (dc : decode M.2.2.1 pc = .ok (.lload i, 2)) (hv : L[i]? = some (some (.long x))) (K : q_W G M d C S Post (pc + 2) L (.long x :: st) n h) : q_W G M d C S Post pc L st n h := by
  intro p l e R s m args below meth c H locs cells slots ls A ad ad0 n0 hF hS hn hc hl hst hL
  exact lv_lload hF.1 hF.2.1 dc (hl.2.2 i _ hv) (K p l e R s m args below meth c H locs cells slots ls A ad ad0 n0 hF hS hn hc hl (q_os_c q_ov_l hst) hL)
theorem r_dload_n {z : Fin 4} {i : Nat} {x : UInt64} (dc : decode M.2.2.1 pc = .ok (.dload_n z, 1)) (hi : (z : Nat) = i) (hv : L[i]? = some (some (.double x))) (K : q_W G M d C S Post (pc + 1) L (.double x :: st) n h) : q_W G M d C S Post pc L st n h := by
  intro p l e R s m args below meth c H locs cells slots ls A ad ad0 n0 hF hS hn hc hl hst hL
  exact lv_dload_n hF.1 hF.2.1 dc hi (hl.2.2 i _ hv) (K p l e R s m args below meth c H locs cells slots ls A ad ad0 n0 hF hS hn hc hl (q_os_c q_ov_d hst) hL)
theorem r_dload {i : Nat} {x : UInt64} (dc : decode M.2.2.1 pc = .ok (.dload i, 2)) (hv : L[i]? = some (some (.double x))) (K : q_W G M d C S Post (pc + 2) L (.double x :: st) n h) : q_W G M d C S Post pc L st n h := by
  intro p l e R s m args below meth c H locs cells slots ls A ad ad0 n0 hF hS hn hc hl hst hL
  exact lv_dload hF.1 hF.2.1 dc (hl.2.2 i _ hv) (K p l e R s m args below meth c H locs cells slots ls A ad ad0 n0 hF hS hn hc hl (q_os_c q_ov_d hst) hL)
theorem r_aload_n {z : Fin 4} {i x : Nat} (dc : decode M.2.2.1 pc = .ok (.aload_n z, 1)) (hi : (z : Nat) = i) (hv : L[i]? = some (some (.ref x))) (K : q_W G M d C S Post (pc + 1) L (.ref x :: st) n h) : q_W G M d C S Post pc L st n h := by
  intro p l e R s m args below meth c H locs cells slots ls A ad ad0 n0 hF hS hn hc hl hst hL
  exact lv_aload_n hF.1 hF.2.1 dc hi (hl.2.2 i _ hv) (K p l e R s m args below meth c H locs cells slots ls A ad ad0 n0 hF hS hn hc hl (q_os_c (hL i _ hv) hst) hL)
theorem r_aload {i x : Nat} (dc : decode M.2.2.1 pc = .ok (.aload i, 2)) (hv : L[i]? = some (some (.ref x))) (K : q_W G M d C S Post (pc + 2) L (.ref x :: st) n h) : q_W G M d C S Post pc L st n h := by
  intro p l e R s m args below meth c H locs cells slots ls A ad ad0 n0 hF hS hn hc hl hst hL
  exact lv_aload hF.1 hF.2.1 dc (hl.2.2 i _ hv) (K p l e R s m args below meth c H locs cells slots ls A ad ad0 n0 hF hS hn hc hl (q_os_c (hL i _ hv) hst) hL)
theorem r_iadd {x y : Int32} (dc : decode M.2.2.1 pc = .ok (.iadd, 1)) (K : q_W G M d C S Post (pc + 1) L (.int (x + y) :: st) n h) : q_W G M d C S Post pc L (.int y :: .int x :: st) n h := by
  intro p l e R s m args below meth c H locs cells slots ls A ad ad0 n0 hF hS hn hc hl hst hL
  exact lv_iadd hF.1 hF.2.1 dc (K p l e R s m args below meth c H locs cells slots ls A ad ad0 n0 hF hS hn hc hl (q_os_c q_ov_i (q_os_t (q_os_t hst))) hL)
theorem r_isub {x y : Int32} (dc : decode M.2.2.1 pc = .ok (.isub, 1)) (K : q_W G M d C S Post (pc + 1) L (.int (x - y) :: st) n h) : q_W G M d C S Post pc L (.int y :: .int x :: st) n h := by
  intro p l e R s m args below meth c H locs cells slots ls A ad ad0 n0 hF hS hn hc hl hst hL
  exact lv_isub hF.1 hF.2.1 dc (K p l e R s m args below meth c H locs cells slots ls A ad ad0 n0 hF hS hn hc hl (q_os_c q_ov_i (q_os_t (q_os_t hst))) hL)
theorem r_imul {x y : Int32} (dc : decode M.2.2.1 pc = .ok (.imul, 1)) (K : q_W G M d C S Post (pc + 1) L (.int (x * y) :: st) n h) : q_W G M d C S Post pc L (.int y :: .int x :: st) n h := by
  intro p l e R s m args below meth c H locs cells slots ls A ad ad0 n0 hF hS hn hc hl hst hL
  exact lv_imul hF.1 hF.2.1 dc (K p l e R s m args below meth c H locs cells slots ls A ad ad0 n0 hF hS hn hc hl (q_os_c q_ov_i (q_os_t (q_os_t hst))) hL)
theorem r_iand {x y : Int32} (dc : decode M.2.2.1 pc = .ok (.iand, 1)) (K : q_W G M d C S Post (pc + 1) L (.int (x &&& y) :: st) n h) : q_W G M d C S Post pc L (.int y :: .int x :: st) n h := by
  intro p l e R s m args below meth c H locs cells slots ls A ad ad0 n0 hF hS hn hc hl hst hL
  exact lv_iand hF.1 hF.2.1 dc (K p l e R s m args below meth c H locs cells slots ls A ad ad0 n0 hF hS hn hc hl (q_os_c q_ov_i (q_os_t (q_os_t hst))) hL)
theorem r_if_eq {x : Int32} {off : Int} {tgt : Nat} (dc : decode M.2.2.1 pc = .ok (.ifCond .eq off, 3)) (ht : (pc : Int) + off = (tgt : Int)) (kt : x = 0 → q_W G M d C S Post tgt L st n h) (kf : ¬ x = 0 → q_W G M d C S Post (pc + 3) L st n h) : q_W G M d C S Post pc L (.int x :: st) n h := by
  intro p l e R s m args below meth c H locs cells slots ls A ad ad0 n0 hF hS hn hc hl hst hL
  exact lv_if_eq hF.1 hF.2.1 dc ht (fun q => (kt q p l e R s m args below meth c H locs cells slots ls A ad ad0 n0 hF hS hn hc hl (q_os_t hst) hL)) (fun q => (kf q p l e R s m args below meth c H locs cells slots ls A ad ad0 n0 hF hS hn hc hl (q_os_t hst) hL))
theorem r_if_ne {x : Int32} {off : Int} {tgt : Nat} (dc : decode M.2.2.1 pc = .ok (.ifCond .ne off, 3)) (ht : (pc : Int) + off = (tgt : Int)) (kt : ¬ x = 0 → q_W G M d C S Post tgt L st n h) (kf : x = 0 → q_W G M d C S Post (pc + 3) L st n h) : q_W G M d C S Post pc L (.int x :: st) n h := by
  intro p l e R s m args below meth c H locs cells slots ls A ad ad0 n0 hF hS hn hc hl hst hL
  exact lv_if_ne hF.1 hF.2.1 dc ht (fun q => (kt q p l e R s m args below meth c H locs cells slots ls A ad ad0 n0 hF hS hn hc hl (q_os_t hst) hL)) (fun q => (kf q p l e R s m args below meth c H locs cells slots ls A ad ad0 n0 hF hS hn hc hl (q_os_t hst) hL))
theorem r_if_lt {x : Int32} {off : Int} {tgt : Nat} (dc : decode M.2.2.1 pc = .ok (.ifCond .lt off, 3)) (ht : (pc : Int) + off = (tgt : Int)) (kt : x < 0 → q_W G M d C S Post tgt L st n h) (kf : ¬ x < 0 → q_W G M d C S Post (pc + 3) L st n h) : q_W G M d C S Post pc L (.int x :: st) n h := by
  intro p l e R s m args below meth c H locs cells slots ls A ad ad0 n0 hF hS hn hc hl hst hL
  exact lv_if_lt hF.1 hF.2.1 dc ht (fun q => (kt q p l e R s m args below meth c H locs cells slots ls A ad ad0 n0 hF hS hn hc hl (q_os_t hst) hL)) (fun q => (kf q p l e R s m args below meth c H locs cells slots ls A ad ad0 n0 hF hS hn hc hl (q_os_t hst) hL))
theorem r_if_ge {x : Int32} {off : Int} {tgt : Nat} (dc : decode M.2.2.1 pc = .ok (.ifCond .ge off, 3)) (ht : (pc : Int) + off = (tgt : Int)) (kt : 0 ≤ x → q_W G M d C S Post tgt L st n h) (kf : ¬ 0 ≤ x → q_W G M d C S Post (pc + 3) L st n h) : q_W G M d C S Post pc L (.int x :: st) n h := by
  intro p l e R s m args below meth c H locs cells slots ls A ad ad0 n0 hF hS hn hc hl hst hL
  exact lv_if_ge hF.1 hF.2.1 dc ht (fun q => (kt q p l e R s m args below meth c H locs cells slots ls A ad ad0 n0 hF hS hn hc hl (q_os_t hst) hL)) (fun q => (kf q p l e R s m args below meth c H locs cells slots ls A ad ad0 n0 hF hS hn hc hl (q_os_t hst) hL))
theorem r_if_gt {x : Int32} {off : Int} {tgt : Nat} (dc : decode M.2.2.1 pc = .ok (.ifCond .gt off, 3)) (ht : (pc : Int) + off = (tgt : Int)) (kt : 0 < x → q_W G M d C S Post tgt L st n h) (kf : ¬ 0 < x → q_W G M d C S Post (pc + 3) L st n h) : q_W G M d C S Post pc L (.int x :: st) n h := by
  intro p l e R s m args below meth c H locs cells slots ls A ad ad0 n0 hF hS hn hc hl hst hL
  exact lv_if_gt hF.1 hF.2.1 dc ht (fun q => (kt q p l e R s m args below meth c H locs cells slots ls A ad ad0 n0 hF hS hn hc hl (q_os_t hst) hL)) (fun q => (kf q p l e R s m args below meth c H locs cells slots ls A ad ad0 n0 hF hS hn hc hl (q_os_t hst) hL))
theorem r_if_le {x : Int32} {off : Int} {tgt : Nat} (dc : decode M.2.2.1 pc = .ok (.ifCond .le off, 3)) (ht : (pc : Int) + off = (tgt : Int)) (kt : x ≤ 0 → q_W G M d C S Post tgt L st n h) (kf : ¬ x ≤ 0 → q_W G M d C S Post (pc + 3) L st n h) : q_W G M d C S Post pc L (.int x :: st) n h := by
  intro p l e R s m args below meth c H locs cells slots ls A ad ad0 n0 hF hS hn hc hl hst hL
  exact lv_if_le hF.1 hF.2.1 dc ht (fun q => (kt q p l e R s m args below meth c H locs cells slots ls A ad ad0 n0 hF hS hn hc hl (q_os_t hst) hL)) (fun q => (kf q p l e R s m args below meth c H locs cells slots ls A ad ad0 n0 hF hS hn hc hl (q_os_t hst) hL))
theorem r_icmp_eq {x y : Int32} {off : Int} {tgt : Nat} (dc : decode M.2.2.1 pc = .ok (.if_icmp .eq off, 3)) (ht : (pc : Int) + off = (tgt : Int)) (kt : x = y → q_W G M d C S Post tgt L st n h) (kf : ¬ x = y → q_W G M d C S Post (pc + 3) L st n h) : q_W G M d C S Post pc L (.int y :: .int x :: st) n h := by
  intro p l e R s m args below meth c H locs cells slots ls A ad ad0 n0 hF hS hn hc hl hst hL
  exact lv_icmp_eq hF.1 hF.2.1 dc ht (fun q => (kt q p l e R s m args below meth c H locs cells slots ls A ad ad0 n0 hF hS hn hc hl (q_os_t (q_os_t hst)) hL)) (fun q => (kf q p l e R s m args below meth c H locs cells slots ls A ad ad0 n0 hF hS hn hc hl (q_os_t (q_os_t hst)) hL))
theorem r_icmp_ne {x y : Int32} {off : Int} {tgt : Nat} (dc : decode M.2.2.1 pc = .ok (.if_icmp .ne off, 3)) (ht : (pc : Int) + off = (tgt : Int)) (kt : ¬ x = y → q_W G M d C S Post tgt L st n h) (kf : x = y → q_W G M d C S Post (pc + 3) L st n h) : q_W G M d C S Post pc L (.int y :: .int x :: st) n h := by
  intro p l e R s m args below meth c H locs cells slots ls A ad ad0 n0 hF hS hn hc hl hst hL
  exact lv_icmp_ne hF.1 hF.2.1 dc ht (fun q => (kt q p l e R s m args below meth c H locs cells slots ls A ad ad0 n0 hF hS hn hc hl (q_os_t (q_os_t hst)) hL)) (fun q => (kf q p l e R s m args below meth c H locs cells slots ls A ad ad0 n0 hF hS hn hc hl (q_os_t (q_os_t hst)) hL))
theorem r_icmp_lt {x y : Int32} {off : Int} {tgt : Nat} (dc : decode M.2.2.1 pc = .ok (.if_icmp .lt off, 3)) (ht : (pc : Int) + off = (tgt : Int)) (kt : x < y → q_W G M d C S Post tgt L st n h) (kf : ¬ x < y → q_W G M d C S Post (pc + 3) L st n h) : q_W G M d C S Post pc L (.int y :: .int x :: st) n h := by
  intro p l e R s m args below meth c H locs cells slots ls A ad ad0 n0 hF hS hn hc hl hst hL
  exact lv_icmp_lt hF.1 hF.2.1 dc ht (fun q => (kt q p l e R s m args below meth c H locs cells slots ls A ad ad0 n0 hF hS hn hc hl (q_os_t (q_os_t hst)) hL)) (fun q => (kf q p l e R s m args below meth c H locs cells slots ls A ad ad0 n0 hF hS hn hc hl (q_os_t (q_os_t hst)) hL))
theorem r_icmp_ge {x y : Int32} {off : Int} {tgt : Nat} (dc : decode M.2.2.1 pc = .ok (.if_icmp .ge off, 3)) (ht : (pc : Int) + off = (tgt : Int)) (kt : y ≤ x → q_W G M d C S Post tgt L st n h) (kf : ¬ y ≤ x → q_W G M d C S Post (pc + 3) L st n h) : q_W G M d C S Post pc L (.int y :: .int x :: st) n h := by
  intro p l e R s m args below meth c H locs cells slots ls A ad ad0 n0 hF hS hn hc hl hst hL
  exact lv_icmp_ge hF.1 hF.2.1 dc ht (fun q => (kt q p l e R s m args below meth c H locs cells slots ls A ad ad0 n0 hF hS hn hc hl (q_os_t (q_os_t hst)) hL)) (fun q => (kf q p l e R s m args below meth c H locs cells slots ls A ad ad0 n0 hF hS hn hc hl (q_os_t (q_os_t hst)) hL))
theorem r_icmp_gt {x y : Int32} {off : Int} {tgt : Nat} (dc : decode M.2.2.1 pc = .ok (.if_icmp .gt off, 3)) (ht : (pc : Int) + off = (tgt : Int)) (kt : y < x → q_W G M d C S Post tgt L st n h) (kf : ¬ y < x → q_W G M d C S Post (pc + 3) L st n h) : q_W G M d C S Post pc L (.int y :: .int x :: st) n h := by
  intro p l e R s m args below meth c H locs cells slots ls A ad ad0 n0 hF hS hn hc hl hst hL
  exact lv_icmp_gt hF.1 hF.2.1 dc ht (fun q => (kt q p l e R s m args below meth c H locs cells slots ls A ad ad0 n0 hF hS hn hc hl (q_os_t (q_os_t hst)) hL)) (fun q => (kf q p l e R s m args below meth c H locs cells slots ls A ad ad0 n0 hF hS hn hc hl (q_os_t (q_os_t hst)) hL))
theorem r_icmp_le {x y : Int32} {off : Int} {tgt : Nat} (dc : decode M.2.2.1 pc = .ok (.if_icmp .le off, 3)) (ht : (pc : Int) + off = (tgt : Int)) (kt : x ≤ y → q_W G M d C S Post tgt L st n h) (kf : ¬ x ≤ y → q_W G M d C S Post (pc + 3) L st n h) : q_W G M d C S Post pc L (.int y :: .int x :: st) n h := by
  intro p l e R s m args below meth c H locs cells slots ls A ad ad0 n0 hF hS hn hc hl hst hL
  exact lv_icmp_le hF.1 hF.2.1 dc ht (fun q => (kt q p l e R s m args below meth c H locs cells slots ls A ad ad0 n0 hF hS hn hc hl (q_os_t (q_os_t hst)) hL)) (fun q => (kf q p l e R s m args below meth c H locs cells slots ls A ad ad0 n0 hF hS hn hc hl (q_os_t (q_os_t hst)) hL))
theorem r_goto {off : Int} {tgt : Nat} (dc : decode M.2.2.1 pc = .ok (.goto off, 3)) (ht : (pc : Int) + off = (tgt : Int)) (K : q_W G M d C S Post tgt L st n h) : q_W G M d C S Post pc L st n h := by
  intro p l e R s m args below meth c H locs cells slots ls A ad ad0 n0 hF hS hn hc hl hst hL
  exact lv_goto hF.1 hF.2.1 dc ht (K p l e R s m args below meth c H locs cells slots ls A ad ad0 n0 hF hS hn hc hl hst hL)
theorem r_ineg {x v : Int32} (dc : decode M.2.2.1 pc = .ok (.ineg, 1)) (hv : 0 - x = v) (K : q_W G M d C S Post (pc + 1) L (.int v :: st) n h) : q_W G M d C S Post pc L (.int x :: st) n h := by
  intro p l e R s m args below meth c H locs cells slots ls A ad ad0 n0 hF hS hn hc hl hst hL
  subst hv
  exact lv_ineg hF.1 hF.2.1 dc (K p l e R s m args below meth c H locs cells slots ls A ad ad0 n0 hF hS hn hc hl (q_os_c q_ov_i (q_os_t hst)) hL)
theorem r_i2l {x : Int32} {v : Int64} (dc : decode M.2.2.1 pc = .ok (.i2l, 1)) (hv : x.toInt64 = v) (K : q_W G M d C S Post (pc + 1) L (.long v :: st) n h) : q_W G M d C S Post pc L (.int x :: st) n h := by
  intro p l e R s m args below meth c H locs cells slots ls A ad ad0 n0 hF hS hn hc hl hst hL
  exact lv_i2l hF.1 hF.2.1 dc hv (K p l e R s m args below meth c H locs cells slots ls A ad ad0 n0 hF hS hn hc hl (q_os_c q_ov_l (q_os_t hst)) hL)
theorem r_dup {v : Value} (dc : decode M.2.2.1 pc = .ok (.dup, 1)) (hv : v.category = 1) (K : q_W G M d C S Post (pc + 1) L (v :: v :: st) n h) : q_W G M d C S Post pc L (v :: st) n h := by
  intro p l e R s m args below meth c H locs cells slots ls A ad ad0 n0 hF hS hn hc hl hst hL
  exact lv_dup hF.1 hF.2.1 dc (q_v_cat.trans hv) (K p l e R s m args below meth c H locs cells slots ls A ad ad0 n0 hF hS hn hc hl (q_os_c (q_os_h hst) hst) hL)
theorem r_dup2 {v w : Value} (dc : decode M.2.2.1 pc = .ok (.dup2, 1)) (hv : v.category = 1) (hw : w.category = 1) (K : q_W G M d C S Post (pc + 1) L (v :: w :: v :: w :: st) n h) : q_W G M d C S Post pc L (v :: w :: st) n h := by
  intro p l e R s m args below meth c H locs cells slots ls A ad ad0 n0 hF hS hn hc hl hst hL
  exact lv_dup2_11 hF.1 hF.2.1 dc (q_v_cat.trans hv) (q_v_cat.trans hw) (K p l e R s m args below meth c H locs cells slots ls A ad ad0 n0 hF hS hn hc hl (q_os_c (q_os_h hst) (q_os_c (q_os_h (q_os_t hst)) hst)) hL)
theorem r_pop {v : Value} (dc : decode M.2.2.1 pc = .ok (.pop, 1)) (hv : v.category = 1) (K : q_W G M d C S Post (pc + 1) L st n h) : q_W G M d C S Post pc L (v :: st) n h := by
  intro p l e R s m args below meth c H locs cells slots ls A ad ad0 n0 hF hS hn hc hl hst hL
  exact lv_pop hF.1 hF.2.1 dc (q_v_cat.trans hv) (K p l e R s m args below meth c H locs cells slots ls A ad ad0 n0 hF hS hn hc hl (q_os_t hst) hL)
theorem r_lcmp {x y : Int64} (dc : decode M.2.2.1 pc = .ok (.lcmp, 1)) (K : q_W G M d C S Post (pc + 1) L (.int (lg_cmp x y) :: st) n h) : q_W G M d C S Post pc L (.long y :: .long x :: st) n h := by
  intro p l e R s m args below meth c H locs cells slots ls A ad ad0 n0 hF hS hn hc hl hst hL
  exact W.lcmp hF.1 hF.2.1 dc (K p l e R s m args below meth c H locs cells slots ls A ad ad0 n0 hF hS hn hc hl (q_os_c q_ov_i (q_os_t (q_os_t hst))) hL)
theorem r_istore_n {z : Fin 4} {i : Nat} {x : Int32} (dc : decode M.2.2.1 pc = .ok (.istore_n z, 1)) (hi : (z : Nat) = i) (hi2 : i < M.2.2.2.1) (h1 : q_c1 (L[i - 1]?) = true) (K : q_W G M d C S Post (pc + 1) (L.set i (some (.int x))) st n h) : q_W G M d C S Post pc L (.int x :: st) n h := by
  intro p l e R s m args below meth c H locs cells slots ls A ad ad0 n0 hF hS hn hc hl hst hL
  exact lv_istore_n hF.1 hF.2.1 dc hi (q_L_pr hl) hi2 rfl (fun ls2 k1 => (K p l e R s m args below meth c H locs cells slots ls2 A ad ad0 n0 hF hS hn hc (q_L_st k1 h1 (fun w hw => by cases hw; rfl)) (q_os_t hst) (q_oL_set hL q_ov_i)))
theorem r_istore {i : Nat} {x : Int32} (dc : decode M.2.2.1 pc = .ok (.istore i, 2)) (hi2 : i < M.2.2.2.1) (h1 : q_c1 (L[i - 1]?) = true) (K : q_W G M d C S Post (pc + 2) (L.set i (some (.int x))) st n h) : q_W G M d C S Post pc L (.int x :: st) n h := by
  intro p l e R s m args below meth c H locs cells slots ls A ad ad0 n0 hF hS hn hc hl hst hL
  exact lv_istore hF.1 hF.2.1 dc (q_L_pr hl) hi2 rfl (fun ls2 k1 => (K p l e R s m args below meth c H locs cells slots ls2 A ad ad0 n0 hF hS hn hc (q_L_st k1 h1 (fun w hw => by cases hw; rfl)) (q_os_t hst) (q_oL_set hL q_ov_i)))
theorem r_astore_n {z : Fin 4} {i x : Nat} (dc : decode M.2.2.1 pc = .ok (.astore_n z, 1)) (hi : (z : Nat) = i) (hi2 : i < M.2.2.2.1) (h1 : q_c1 (L[i - 1]?) = true) (K : q_W G M d C S Post (pc + 1) (L.set i (some (.ref x))) st n h) : q_W G M d C S Post pc L (.ref x :: st) n h := by
  intro p l e R s m args below meth c H locs cells slots ls A ad ad0 n0 hF hS hn hc hl hst hL
  exact lv_astore_n hF.1 hF.2.1 dc hi (q_L_pr hl) hi2 rfl (fun ls2 k1 => (K p l e R s m args below meth c H locs cells slots ls2 A ad ad0 n0 hF hS hn hc (q_L_st k1 h1 (fun w hw => by cases hw; rfl)) (q_os_t hst) (q_oL_set hL (q_os_h hst))))
theorem r_astore {i x : Nat} (dc : decode M.2.2.1 pc = .ok (.astore i, 2)) (hi2 : i < M.2.2.2.1) (h1 : q_c1 (L[i - 1]?) = true) (K : q_W G M d C S Post (pc + 2) (L.set i (some (.ref x))) st n h) : q_W G M d C S Post pc L (.ref x :: st) n h := by
  intro p l e R s m args below meth c H locs cells slots ls A ad ad0 n0 hF hS hn hc hl hst hL
  exact lv_astore hF.1 hF.2.1 dc (q_L_pr hl) hi2 rfl (fun ls2 k1 => (K p l e R s m args below meth c H locs cells slots ls2 A ad ad0 n0 hF hS hn hc (q_L_st k1 h1 (fun w hw => by cases hw; rfl)) (q_os_t hst) (q_oL_set hL (q_os_h hst))))
theorem r_dstore {i : Nat} {x : UInt64} (dc : decode M.2.2.1 pc = .ok (.dstore i, 2)) (hi2 : i + 1 < M.2.2.2.1) (h1 : q_c1 (L[i - 1]?) = true) (K : q_W G M d C S Post (pc + 2) ((L.set i (some (.double x))).set (i + 1) none) st n h) : q_W G M d C S Post pc L (.double x :: st) n h := by
  intro p l e R s m args below meth c H locs cells slots ls A ad ad0 n0 hF hS hn hc hl hst hL
  exact lv_dstore hF.1 hF.2.1 dc (q_L_pr hl) hi2 rfl (fun ls2 k1 => (K p l e R s m args below meth c H locs cells slots ls2 A ad ad0 n0 hF hS hn hc (q_L_st2 k1 h1 rfl) (q_os_t hst) (q_oL_none (q_oL_set hL q_ov_d))))
theorem r_iinc {i : Nat} {z : Int} {x v : Int32} (dc : decode M.2.2.1 pc = .ok (.iinc i z, 3)) (hx : L[i]? = some (some (.int x))) (hv : x + Int32.ofInt z = v) (hi2 : i < M.2.2.2.1) (h1 : q_c1 (L[i - 1]?) = true) (K : q_W G M d C S Post (pc + 3) (L.set i (some (.int v))) st n h) : q_W G M d C S Post pc L st n h := by
  intro p l e R s m args below meth c H locs cells slots ls A ad ad0 n0 hF hS hn hc hl hst hL
  obtain ⟨k, hk⟩ := List.getElem?_of_mem (q_pr_mem (ad := ad) hx)
  exact lv_iinc (k := k) hF.1 hF.2.1 dc (q_L_pr hl) hk hv hi2 rfl (fun ls2 k1 => (K p l e R s m args below meth c H locs cells slots ls2 A ad ad0 n0 hF hS hn hc (q_L_st k1 h1 (fun w hw => by cases hw; rfl)) hst (q_oL_set hL q_ov_i)))
theorem r_idiv {x y : Int32} (dc : decode M.2.2.1 pc = .ok (.idiv, 1)) (hy : ¬ y = 0) (K : q_W G M d C S Post (pc + 1) L (.int (x / y) :: st) n h) : q_W G M d C S Post pc L (.int y :: .int x :: st) n h := by
  intro p l e R s m args below meth c H locs cells slots ls A ad ad0 n0 hF hS hn hc hl hst hL
  exact lv_idiv hF.1 hF.2.1 dc hy (K p l e R s m args below meth c H locs cells slots ls A ad ad0 n0 hF hS hn hc hl (q_os_c q_ov_i (q_os_t (q_os_t hst))) hL)
theorem r_irem {x y : Int32} (dc : decode M.2.2.1 pc = .ok (.irem, 1)) (hy : ¬ y = 0) (K : q_W G M d C S Post (pc + 1) L (.int (x - x / y * y) :: st) n h) : q_W G M d C S Post pc L (.int y :: .int x :: st) n h := by
  intro p l e R s m args below meth c H locs cells slots ls A ad ad0 n0 hF hS hn hc hl hst hL
  exact lv_irem hF.1 hF.2.1 dc hy (K p l e R s m args below meth c H locs cells slots ls A ad ad0 n0 hF hS hn hc hl (q_os_c q_ov_i (q_os_t (q_os_t hst))) hL)
theorem r_i2c {x v : Int32} (dc : decode M.2.2.1 pc = .ok (.i2c, 1)) (hv : (x.toUInt32 % 65536).toInt32 = v) (K : q_W G M d C S Post (pc + 1) L (.int v :: st) n h) : q_W G M d C S Post pc L (.int x :: st) n h := by
  intro p l e R s m args below meth c H locs cells slots ls A ad ad0 n0 hF hS hn hc hl hst hL
  exact lv_i2c hF.1 hF.2.1 dc hv (K p l e R s m args below meth c H locs cells slots ls A ad ad0 n0 hF hS hn hc hl (q_os_c q_ov_i (q_os_t hst)) hL)
theorem r_i2d {x : Int32} (dc : decode M.2.2.1 pc = .ok (.i2d, 1)) (K : q_W G M d C S Post (pc + 1) L (.double (FP.i2d x) :: st) n h) : q_W G M d C S Post pc L (.int x :: st) n h := by
  intro p l e R s m args below meth c H locs cells slots ls A ad ad0 n0 hF hS hn hc hl hst hL
  exact lv_i2d hF.1 hF.2.1 dc (K p l e R s m args below meth c H locs cells slots ls A ad ad0 n0 hF hS hn hc hl (q_os_c q_ov_d (q_os_t hst)) hL)
theorem r_ddiv {x y : UInt64} (dc : decode M.2.2.1 pc = .ok (.ddiv, 1)) (hne : vf_n64 (FP.ddiv x y)) (K : q_W G M d C S Post (pc + 1) L (.double (FP.ddiv x y) :: st) n h) : q_W G M d C S Post pc L (.double y :: .double x :: st) n h := by
  intro p l e R s m args below meth c H locs cells slots ls A ad ad0 n0 hF hS hn hc hl hst hL
  exact lv_ddiv hF.1 hF.2.1 dc hne (K p l e R s m args below meth c H locs cells slots ls A ad ad0 n0 hF hS hn hc hl (q_os_c q_ov_d (q_os_t (q_os_t hst))) hL)
theorem r_dcmp {x y : UInt64} {op : CmpOp} (dc : decode M.2.2.1 pc = .ok (.dcmp op, 1)) (K : q_W G M d C S Post (pc + 1) L (.int (Op.cmpValue (FP.dcmp x y) op) :: st) n h) : q_W G M d C S Post pc L (.double y :: .double x :: st) n h := by
  intro p l e R s m args below meth c H locs cells slots ls A ad ad0 n0 hF hS hn hc hl hst hL
  exact lv_dcmp hF.1 hF.2.1 dc (K p l e R s m args below meth c H locs cells slots ls A ad ad0 n0 hF hS hn hc hl (q_os_c q_ov_i (q_os_t (q_os_t hst))) hL)
theorem r_dconst0 (dc : decode M.2.2.1 pc = .ok (.dconst 0, 1)) (K : q_W G M d C S Post (pc + 1) L (.double 0 :: st) n h) : q_W G M d C S Post pc L st n h := by
  intro p l e R s m args below meth c H locs cells slots ls A ad ad0 n0 hF hS hn hc hl hst hL
  exact lv_dconst0 hF.1 hF.2.1 dc (K p l e R s m args below meth c H locs cells slots ls A ad ad0 n0 hF hS hn hc hl (q_os_c q_ov_d hst) hL)
theorem r_ldc2 {i : Nat} {v : Int64} (dc : decode M.2.2.1 pc = .ok (.ldc2_w i, 3)) (hw : Cond.constantLong M.1 i v ∈ q_tw) (K : q_W G M d C S Post (pc + 3) L (.long v :: st) n h) : q_W G M d C S Post pc L st n h := by
  intro p l e R s m args below meth c H locs cells slots ls A ad ad0 n0 hF hS hn hc hl hst hL
  exact lv_ldc2 hF.1 hF.2.1 hF.2.2.2.2.2.2.2.1 (hF.2.2.2.2.2.2.2.2.1 _ hw) dc (K p l e R s m args below meth c H locs cells slots ls A ad ad0 n0 hF hS hn hc hl (q_os_c q_ov_l hst) hL)
theorem r_tabIn {dflt lo hi : Int} {offs : Array Int} {len : Nat} {x : Int32} {off : Int} {tgt : Nat} (dc : decode M.2.2.1 pc = .ok (.tableswitch dflt lo hi offs, len)) (h1 : ¬ x.toInt < lo) (h2 : ¬ hi < x.toInt) (ho : offs[(x.toInt - lo).toNat]? = some off) (ht : (pc : Int) + off = (tgt : Int)) (K : q_W G M d C S Post tgt L st n h) : q_W G M d C S Post pc L (.int x :: st) n h := by
  intro p l e R s m args below meth c H locs cells slots ls A ad ad0 n0 hF hS hn hc hl hst hL
  exact lv_tableIn hF.1 hF.2.1 dc h1 h2 ho ht (K p l e R s m args below meth c H locs cells slots ls A ad ad0 n0 hF hS hn hc hl (q_os_t hst) hL)
theorem r_tabOut {dflt lo hi : Int} {offs : Array Int} {len : Nat} {x : Int32} {tgt : Nat} (dc : decode M.2.2.1 pc = .ok (.tableswitch dflt lo hi offs, len)) (hx : x.toInt < lo ∨ hi < x.toInt) (ht : (pc : Int) + dflt = (tgt : Int)) (K : q_W G M d C S Post tgt L st n h) : q_W G M d C S Post pc L (.int x :: st) n h := by
  intro p l e R s m args below meth c H locs cells slots ls A ad ad0 n0 hF hS hn hc hl hst hL
  exact lv_tableOut hF.1 hF.2.1 dc hx ht (K p l e R s m args below meth c H locs cells slots ls A ad ad0 n0 hF hS hn hc hl (q_os_t hst) hL)
end QR1
