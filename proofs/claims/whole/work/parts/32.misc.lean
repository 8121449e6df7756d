theorem kwM_static_max : Cond.static Lib.Math.max.name ∈ q_tw := (q_in (q_t2 (List.mem_of_getElem? (i := 238) (by decide +kernel))) (by decide +kernel))
theorem kwM_code_max : Cond.code Lib.Math.max.name Lib.Math.max.code 2 (some .int) ∈ q_tw := (q_in (q_t2 (List.mem_of_getElem? (i := 239) (by decide +kernel))) (by decide +kernel))
theorem kwM_X10_max : Cond.methodLink RX10 105 Lib.Math.max.name ∈ q_tw := (q_in (q_t2 (List.mem_of_getElem? (i := 237) (by decide +kernel))) (by decide +kernel))
theorem kwM_X1_max : Cond.methodLink RX1 25 Lib.Math.max.name ∈ q_tw := (q_in (q_t3 (List.mem_of_getElem? (i := 113) (by decide +kernel))) (by decide +kernel))
theorem kwM_X11_max : Cond.methodLink RX11 415 Lib.Math.max.name ∈ q_tw := (q_in (q_t4 (List.mem_of_getElem? (i := 202) (by decide +kernel))) (by decide +kernel))
theorem kwM_X3_max : Cond.methodLink RX3 94 Lib.Math.max.name ∈ q_tw := (q_in (q_t5 (List.mem_of_getElem? (i := 78) (by decide +kernel))) (by decide +kernel))
theorem kwM_X12_max : Cond.methodLink RX12 167 Lib.Math.max.name ∈ q_tw := (q_in (q_t7 (List.mem_of_getElem? (i := 18) (by decide +kernel))) (by decide +kernel))
theorem kwM_static_min : Cond.static Lib.Math.min.name ∈ q_tw := (q_in (q_t3 (List.mem_of_getElem? (i := 67) (by decide +kernel))) (by decide +kernel))
theorem kwM_code_min : Cond.code Lib.Math.min.name Lib.Math.min.code 2 (some .int) ∈ q_tw := (q_in (q_t3 (List.mem_of_getElem? (i := 68) (by decide +kernel))) (by decide +kernel))
theorem kwM_X11_min : Cond.methodLink RX11 426 Lib.Math.min.name ∈ q_tw := (q_in (q_t3 (List.mem_of_getElem? (i := 66) (by decide +kernel))) (by decide +kernel))
theorem kwM_static_abs : Cond.static Lib.Math.abs.name ∈ q_tw := (q_in (q_t5 (List.mem_of_getElem? (i := 41) (by decide +kernel))) (by decide +kernel))
theorem kwM_code_abs : Cond.code Lib.Math.abs.name Lib.Math.abs.code 1 (some .int) ∈ q_tw := (q_in (q_t5 (List.mem_of_getElem? (i := 42) (by decide +kernel))) (by decide +kernel))
theorem kwM_X5_abs : Cond.methodLink RX5 28 Lib.Math.abs.name ∈ q_tw := (q_in (q_t5 (List.mem_of_getElem? (i := 40) (by decide +kernel))) (by decide +kernel))
theorem kwM_ini : Cond.initialized "java/lang/Math" ∈ q_tw := (q_in (q_t1 (List.mem_of_getElem? (i := 21) (by decide +kernel))) (by decide +kernel))
theorem kwC_native : Cond.native arraycopyName ∈ q_tw := (q_in (q_t3 (List.mem_of_getElem? (i := 71) (by decide +kernel))) (by decide +kernel))
theorem kwC_static : Cond.static arraycopyName ∈ q_tw := (q_in (q_t3 (List.mem_of_getElem? (i := 70) (by decide +kernel))) (by decide +kernel))
theorem kwC_ini : Cond.initialized "java/lang/System" ∈ q_tw := (q_in (q_t1 (List.mem_of_getElem? (i := 22) (by decide +kernel))) (by decide +kernel))
theorem kwO_inst : Cond.instanceMethod objectInit ∈ q_tw := (q_in (q_t1 (List.mem_of_getElem? (i := 29) (by decide +kernel))) (by decide +kernel))
theorem kwO_code : Cond.code objectInit ⟨#[0xb1]⟩ 1 none ∈ q_tw := (q_in (q_t1 (List.mem_of_getElem? (i := 30) (by decide +kernel))) (by decide +kernel))
theorem kwO_X11 : Cond.methodLink RX11 1 objectInit ∈ q_tw := (q_in (q_t1 (List.mem_of_getElem? (i := 28) (by decide +kernel))) (by decide +kernel))
theorem kwO_X7 : Cond.methodLink RX7 3 objectInit ∈ q_tw := (q_in (q_t1 (List.mem_of_getElem? (i := 36) (by decide +kernel))) (by decide +kernel))
theorem kwO_X5 : Cond.methodLink RX5 3 objectInit ∈ q_tw := (q_in (q_t1 (List.mem_of_getElem? (i := 44) (by decide +kernel))) (by decide +kernel))
theorem kwO_X10 : Cond.methodLink RX10 3 objectInit ∈ q_tw := (q_in (q_t1 (List.mem_of_getElem? (i := 162) (by decide +kernel))) (by decide +kernel))
theorem kwO_X2 : Cond.methodLink RX2 3 objectInit ∈ q_tw := (q_in (q_t1 (List.mem_of_getElem? (i := 217) (by decide +kernel))) (by decide +kernel))
theorem kwO_X3 : Cond.methodLink RX3 3 objectInit ∈ q_tw := (q_in (q_t2 (List.mem_of_getElem? (i := 3) (by decide +kernel))) (by decide +kernel))
theorem kwO_X6 : Cond.methodLink RX6 3 objectInit ∈ q_tw := (q_in (q_t2 (List.mem_of_getElem? (i := 22) (by decide +kernel))) (by decide +kernel))
theorem kwO_X0 : Cond.methodLink RX0 3 objectInit ∈ q_tw := (q_in (q_t2 (List.mem_of_getElem? (i := 41) (by decide +kernel))) (by decide +kernel))
theorem kwO_X8 : Cond.methodLink RX8 3 objectInit ∈ q_tw := (q_in (q_t2 (List.mem_of_getElem? (i := 64) (by decide +kernel))) (by decide +kernel))
theorem kwO_X1 : Cond.methodLink RX1 3 objectInit ∈ q_tw := (q_in (q_t2 (List.mem_of_getElem? (i := 106) (by decide +kernel))) (by decide +kernel))
theorem kwO_X9 : Cond.methodLink RX9 3 objectInit ∈ q_tw := (q_in (q_t2 (List.mem_of_getElem? (i := 125) (by decide +kernel))) (by decide +kernel))
theorem kwO_X4 : Cond.methodLink RX4 3 objectInit ∈ q_tw := (q_in (q_t2 (List.mem_of_getElem? (i := 158) (by decide +kernel))) (by decide +kernel))
theorem kwC_X11 : Cond.methodLink RX11 429 arraycopyName ∈ q_tw := (q_in (q_t3 (List.mem_of_getElem? (i := 69) (by decide +kernel))) (by decide +kernel))
theorem kwO_X12 : Cond.methodLink RX12 3 objectInit ∈ q_tw := (q_in (q_t6 (List.mem_of_getElem? (i := 13) (by decide +kernel))) (by decide +kernel))
theorem kwC_X12 : Cond.methodLink RX12 264 arraycopyName ∈ q_tw := (q_in (q_t7 (List.mem_of_getElem? (i := 182) (by decide +kernel))) (by decide +kernel))
theorem thwX11_96 : ∀ w ∈ vx_atS RX11 96 q_IA q_nms, w ∈ q_tw ∨ w ∈ q_ew := by
  have h : (vx_atS RX11 96 q_IA q_nms).all (fun w => decide (w ∈ lw_tbl) && (goodWord w || q_isE w)) = true := by decide +kernel
  intro w hw
  have h1 := List.all_eq_true.mp h w hw
  rw [Bool.and_eq_true, decide_eq_true_eq, Bool.or_eq_true] at h1
  exact h1.2.imp (fun q => List.mem_filter.mpr ⟨h1.1, q⟩) (fun q => List.mem_filter.mpr ⟨h1.1, q⟩)
theorem thwX11_96o : ∀ w ∈ vx_atS RX11 96 q_IA q_nms, vx_ot w = true := by decide +kernel
theorem thwX11_96k : Cond.classLink RX11 92 q_IA ∈ q_tw := (q_in (q_t3 (List.mem_of_getElem? (i := 150) (by decide +kernel))) (by decide +kernel))
theorem thwX11_96i : Cond.initialized q_IA ∈ q_tw := (q_in (q_t1 (List.mem_of_getElem? (i := 17) (by decide +kernel))) (by decide +kernel))
theorem thrX11_94_96 : q_thr RX11 92 94 96 q_IA "release, due time or weight out of range" := ⟨by decide +kernel, thwX11_96k, thwX11_96i, List.mem_filterMap.mpr ⟨Cond.stringRef RX11 94 "release, due time or weight out of range", q_t3 (List.mem_of_getElem? (i := 192) (by decide +kernel)), rfl⟩, thwX11_96, thwX11_96o⟩
theorem thwX11_107 : ∀ w ∈ vx_atS RX11 107 q_IS q_nms, w ∈ q_tw ∨ w ∈ q_ew := by
  have h : (vx_atS RX11 107 q_IS q_nms).all (fun w => decide (w ∈ lw_tbl) && (goodWord w || q_isE w)) = true := by decide +kernel
  intro w hw
  have h1 := List.all_eq_true.mp h w hw
  rw [Bool.and_eq_true, decide_eq_true_eq, Bool.or_eq_true] at h1
  exact h1.2.imp (fun q => List.mem_filter.mpr ⟨h1.1, q⟩) (fun q => List.mem_filter.mpr ⟨h1.1, q⟩)
theorem thwX11_107o : ∀ w ∈ vx_atS RX11 107 q_IS q_nms, vx_ot w = true := by decide +kernel
theorem thwX11_107k : Cond.classLink RX11 103 q_IS ∈ q_tw := (q_in (q_t3 (List.mem_of_getElem? (i := 219) (by decide +kernel))) (by decide +kernel))
theorem thwX11_107i : Cond.initialized q_IS ∈ q_tw := (q_in (q_t1 (List.mem_of_getElem? (i := 18) (by decide +kernel))) (by decide +kernel))
theorem thrX11_105_107 : q_thr RX11 103 105 107 q_IS "there are 5 jobs" := ⟨by decide +kernel, thwX11_107k, thwX11_107i, List.mem_filterMap.mpr ⟨Cond.stringRef RX11 105 "there are 5 jobs", q_t3 (List.mem_of_getElem? (i := 228) (by decide +kernel)), rfl⟩, thwX11_107, thwX11_107o⟩
theorem thrX11_126_96 : q_thr RX11 92 126 96 q_IA "duration or family out of range" := ⟨by decide +kernel, thwX11_96k, thwX11_96i, List.mem_filterMap.mpr ⟨Cond.stringRef RX11 126 "duration or family out of range", q_t4 (List.mem_of_getElem? (i := 40) (by decide +kernel)), rfl⟩, thwX11_96, thwX11_96o⟩
theorem thrX11_132_107 : q_thr RX11 103 132 107 q_IS "the job has 4 operations or one on this machine" := ⟨by decide +kernel, thwX11_107k, thwX11_107i, List.mem_filterMap.mpr ⟨Cond.stringRef RX11 132 "the job has 4 operations or one on this machine", q_t4 (List.mem_of_getElem? (i := 45) (by decide +kernel)), rfl⟩, thwX11_107, thwX11_107o⟩
theorem thrX11_145_96 : q_thr RX11 92 145 96 q_IA "what or value out of range" := ⟨by decide +kernel, thwX11_96k, thwX11_96i, List.mem_filterMap.mpr ⟨Cond.stringRef RX11 145 "what or value out of range", q_t4 (List.mem_of_getElem? (i := 61) (by decide +kernel)), rfl⟩, thwX11_96, thwX11_96o⟩
theorem thrX11_154_96 : q_thr RX11 92 154 96 q_IA "duration out of range" := ⟨by decide +kernel, thwX11_96k, thwX11_96i, List.mem_filterMap.mpr ⟨Cond.stringRef RX11 154 "duration out of range", q_t4 (List.mem_of_getElem? (i := 74) (by decide +kernel)), rfl⟩, thwX11_96, thwX11_96o⟩
theorem thwX11_163 : ∀ w ∈ vx_atS RX11 163 q_IO q_nms, w ∈ q_tw ∨ w ∈ q_ew := by
  have h : (vx_atS RX11 163 q_IO q_nms).all (fun w => decide (w ∈ lw_tbl) && (goodWord w || q_isE w)) = true := by decide +kernel
  intro w hw
  have h1 := List.all_eq_true.mp h w hw
  rw [Bool.and_eq_true, decide_eq_true_eq, Bool.or_eq_true] at h1
  exact h1.2.imp (fun q => List.mem_filter.mpr ⟨h1.1, q⟩) (fun q => List.mem_filter.mpr ⟨h1.1, q⟩)
theorem thwX11_163o : ∀ w ∈ vx_atS RX11 163 q_IO q_nms, vx_ot w = true := by decide +kernel
theorem thwX11_163k : Cond.classLink RX11 159 q_IO ∈ q_tw := (q_in (q_t4 (List.mem_of_getElem? (i := 11) (by decide +kernel))) (by decide +kernel))
theorem thwX11_163i : Cond.initialized q_IO ∈ q_tw := (q_in (q_t1 (List.mem_of_getElem? (i := 19) (by decide +kernel))) (by decide +kernel))
theorem thrX11_161_163 : q_thr RX11 159 161 163 q_IO "no such family" := ⟨by decide +kernel, thwX11_163k, thwX11_163i, List.mem_filterMap.mpr ⟨Cond.stringRef RX11 161 "no such family", q_t4 (List.mem_of_getElem? (i := 82) (by decide +kernel)), rfl⟩, thwX11_163, thwX11_163o⟩
theorem thrX11_164_96 : q_thr RX11 92 164 96 q_IA "setup time out of range" := ⟨by decide +kernel, thwX11_96k, thwX11_96i, List.mem_filterMap.mpr ⟨Cond.stringRef RX11 164 "setup time out of range", q_t4 (List.mem_of_getElem? (i := 83) (by decide +kernel)), rfl⟩, thwX11_96, thwX11_96o⟩
theorem thrX11_169_96 : q_thr RX11 92 169 96 q_IA "first or length out of range" := ⟨by decide +kernel, thwX11_96k, thwX11_96i, List.mem_filterMap.mpr ⟨Cond.stringRef RX11 169 "first or length out of range", q_t4 (List.mem_of_getElem? (i := 91) (by decide +kernel)), rfl⟩, thwX11_96, thwX11_96o⟩
theorem thrX11_174_107 : q_thr RX11 103 174 107 q_IS "the machine has 3 breakdowns" := ⟨by decide +kernel, thwX11_107k, thwX11_107i, List.mem_filterMap.mpr ⟨Cond.stringRef RX11 174 "the machine has 3 breakdowns", q_t4 (List.mem_of_getElem? (i := 92) (by decide +kernel)), rfl⟩, thwX11_107, thwX11_107o⟩
theorem thrX11_179_96 : q_thr RX11 92 179 96 q_IA "what is neither 0 nor 1" := ⟨by decide +kernel, thwX11_96k, thwX11_96i, List.mem_filterMap.mpr ⟨Cond.stringRef RX11 179 "what is neither 0 nor 1", q_t4 (List.mem_of_getElem? (i := 111) (by decide +kernel)), rfl⟩, thwX11_96, thwX11_96o⟩
theorem thrX11_206_96 : q_thr RX11 92 206 96 q_IA "what is not from 0 to 5" := ⟨by decide +kernel, thwX11_96k, thwX11_96i, List.mem_filterMap.mpr ⟨Cond.stringRef RX11 206 "what is not from 0 to 5", q_t4 (List.mem_of_getElem? (i := 123) (by decide +kernel)), rfl⟩, thwX11_96, thwX11_96o⟩
theorem thrX11_219_96 : q_thr RX11 92 219 96 q_IA "what is not from 0 to 2" := ⟨by decide +kernel, thwX11_96k, thwX11_96i, List.mem_filterMap.mpr ⟨Cond.stringRef RX11 219 "what is not from 0 to 2", q_t4 (List.mem_of_getElem? (i := 159) (by decide +kernel)), rfl⟩, thwX11_96, thwX11_96o⟩
theorem thrX11_264_96 : q_thr RX11 92 264 96 q_IA "what is not from 0 to 4" := ⟨by decide +kernel, thwX11_96k, thwX11_96i, List.mem_filterMap.mpr ⟨Cond.stringRef RX11 264 "what is not from 0 to 4", q_t4 (List.mem_of_getElem? (i := 216) (by decide +kernel)), rfl⟩, thwX11_96, thwX11_96o⟩
theorem thrX11_296_107 : q_thr RX11 103 296 107 q_IS "there would be a cycle" := ⟨by decide +kernel, thwX11_107k, thwX11_107i, List.mem_filterMap.mpr ⟨Cond.stringRef RX11 296 "there would be a cycle", q_t5 (List.mem_of_getElem? (i := 28) (by decide +kernel)), rfl⟩, thwX11_107, thwX11_107o⟩
theorem thrX11_213_96 : q_thr RX11 92 213 96 q_IA "no such position" := ⟨by decide +kernel, thwX11_96k, thwX11_96i, List.mem_filterMap.mpr ⟨Cond.stringRef RX11 213 "no such position", q_t4 (List.mem_of_getElem? (i := 145) (by decide +kernel)), rfl⟩, thwX11_96, thwX11_96o⟩
theorem thrX11_308_96 : q_thr RX11 92 308 96 q_IA "time out of range" := ⟨by decide +kernel, thwX11_96k, thwX11_96i, List.mem_filterMap.mpr ⟨Cond.stringRef RX11 308 "time out of range", q_t5 (List.mem_of_getElem? (i := 94) (by decide +kernel)), rfl⟩, thwX11_96, thwX11_96o⟩
theorem thrX11_333_96 : q_thr RX11 92 333 96 q_IA "steps or tenure out of range" := ⟨by decide +kernel, thwX11_96k, thwX11_96i, List.mem_filterMap.mpr ⟨Cond.stringRef RX11 333 "steps or tenure out of range", q_t5 (List.mem_of_getElem? (i := 126) (by decide +kernel)), rfl⟩, thwX11_96, thwX11_96o⟩
theorem thrX11_352_107 : q_thr RX11 103 352 107 q_IS "the buffer contains 80 characters" := ⟨by decide +kernel, thwX11_107k, thwX11_107i, List.mem_filterMap.mpr ⟨Cond.stringRef RX11 352 "the buffer contains 80 characters", q_t5 (List.mem_of_getElem? (i := 170) (by decide +kernel)), rfl⟩, thwX11_107, thwX11_107o⟩
theorem thrX11_367_96 : q_thr RX11 92 367 96 q_IA "the text has a fault" := ⟨by decide +kernel, thwX11_96k, thwX11_96i, List.mem_filterMap.mpr ⟨Cond.stringRef RX11 367 "the text has a fault", q_t5 (List.mem_of_getElem? (i := 202) (by decide +kernel)), rfl⟩, thwX11_96, thwX11_96o⟩
theorem thrX11_377_107 : q_thr RX11 103 377 107 q_IS "the text cannot be executed" := ⟨by decide +kernel, thwX11_107k, thwX11_107i, List.mem_filterMap.mpr ⟨Cond.stringRef RX11 377 "the text cannot be executed", q_t5 (List.mem_of_getElem? (i := 227) (by decide +kernel)), rfl⟩, thwX11_107, thwX11_107o⟩
theorem thrX11_379_96 : q_thr RX11 92 379 96 q_IA "depth is negative" := ⟨by decide +kernel, thwX11_96k, thwX11_96i, List.mem_filterMap.mpr ⟨Cond.stringRef RX11 379 "depth is negative", q_t5 (List.mem_of_getElem? (i := 235) (by decide +kernel)), rfl⟩, thwX11_96, thwX11_96o⟩
theorem thrX11_389_107 : q_thr RX11 103 389 107 q_IS "there is no snapshot" := ⟨by decide +kernel, thwX11_107k, thwX11_107i, List.mem_filterMap.mpr ⟨Cond.stringRef RX11 389 "there is no snapshot", q_t6 (List.mem_of_getElem? (i := 7) (by decide +kernel)), rfl⟩, thwX11_107, thwX11_107o⟩
theorem thrX11_394_163 : q_thr RX11 159 394 163 q_IO "no such machine" := ⟨by decide +kernel, thwX11_163k, thwX11_163i, List.mem_filterMap.mpr ⟨Cond.stringRef RX11 394 "no such machine", q_t4 (List.mem_of_getElem? (i := 33) (by decide +kernel)), rfl⟩, thwX11_163, thwX11_163o⟩
theorem thrX11_396_96 : q_thr RX11 92 396 96 q_IA "rule out of range" := ⟨by decide +kernel, thwX11_96k, thwX11_96i, List.mem_filterMap.mpr ⟨Cond.stringRef RX11 396 "rule out of range", q_t5 (List.mem_of_getElem? (i := 53) (by decide +kernel)), rfl⟩, thwX11_96, thwX11_96o⟩
theorem thrX11_398_163 : q_thr RX11 159 398 163 q_IO "no such job" := ⟨by decide +kernel, thwX11_163k, thwX11_163i, List.mem_filterMap.mpr ⟨Cond.stringRef RX11 398 "no such job", q_t4 (List.mem_of_getElem? (i := 20) (by decide +kernel)), rfl⟩, thwX11_163, thwX11_163o⟩
theorem thrX11_400_163 : q_thr RX11 159 400 163 q_IO "no such operation" := ⟨by decide +kernel, thwX11_163k, thwX11_163i, List.mem_filterMap.mpr ⟨Cond.stringRef RX11 400 "no such operation", q_t4 (List.mem_of_getElem? (i := 73) (by decide +kernel)), rfl⟩, thwX11_163, thwX11_163o⟩
/-- truth values -/
def bI (b : Bool) : Int32 := nI (if b then 1 else 0)
theorem bI_t : bI true = nI 1 := rfl
theorem bI_f : bI false = nI 0 := rfl
section SR3
variable {G : q_G} {M : q_M} {d C S : Nat} {P : q_R → s_T → Prop} {pc : Nat} {L : List (Option Value)} {st : List Value} {s : s_T}
theorem b_ifeq {b : Bool} {off : Int} {tgt : Nat} (dc : decode M.2.2.1 pc = .ok (.ifCond .eq off, 3)) (ht : (pc : Int) + off = (tgt : Int)) (kt : b = false → s_W G M d C S P tgt L st s) (kf : b = true → s_W G M d C S P (pc + 3) L st s) : s_W G M d C S P pc L (.int (bI b) :: st) s := by
  cases b with
  | false => exact r_if_eq dc ht (fun _ => kt rfl) (fun q => absurd (by decide) q)
  | true => exact r_if_eq dc ht (fun q => absurd q (by decide)) (fun _ => kf rfl)
theorem b_ifne {b : Bool} {off : Int} {tgt : Nat} (dc : decode M.2.2.1 pc = .ok (.ifCond .ne off, 3)) (ht : (pc : Int) + off = (tgt : Int)) (kt : b = true → s_W G M d C S P tgt L st s) (kf : b = false → s_W G M d C S P (pc + 3) L st s) : s_W G M d C S P pc L (.int (bI b) :: st) s := by
  cases b with
  | false => exact r_if_ne dc ht (fun q => absurd (by decide) q) (fun _ => kf rfl)
  | true => exact r_if_ne dc ht (fun _ => kt rfl) (fun q => absurd q (by decide))
end SR3
theorem nI_max {a b : Nat} (ha : a < 2 ^ 31) (hb : b < 2 ^ 31) : (if nI a < nI b then nI b else nI a) = nI (max a b) := by
  by_cases h : a < b
  · rw [if_pos ((nI_ltI ha hb).mpr h), Nat.max_eq_right (Nat.le_of_lt h)]
  · rw [if_neg (fun q => h ((nI_ltI ha hb).mp q)), Nat.max_eq_left (Nat.le_of_not_lt h)]
theorem nI_m1 {a : Nat} (h : a < 2 ^ 31) : ¬ nI a = -1 := fun q => by
  have h1 := congrArg Int32.toInt q
  rw [nI_toInt h] at h1
  have h2 : ((-1 : Int32)).toInt = -1 := by decide
  omega
theorem nI_min {a b : Nat} (ha : a < 2 ^ 31) (hb : b < 2 ^ 31) : (if nI b < nI a then nI b else nI a) = nI (min a b) := by
  by_cases h : b < a
  · rw [if_pos ((nI_ltI hb ha).mpr h), Nat.min_eq_right (Nat.le_of_lt h)]
  · rw [if_neg (fun q => h ((nI_ltI hb ha).mp q)), Nat.min_eq_left (Nat.le_of_not_lt h)]
/-- a contract that asks less and gives more -/
theorem s_mono {G : q_G} {M : q_M} {d d' C C' S S' : Nat} {P P' : q_R → s_T → Prop} {pc : Nat} {L : List (Option Value)} {st : List Value} {s : s_T} (hd : d ≤ d') (hC : C ≤ C') (hS : S ≤ S') (hP : ∀ r s, P r s → P' r s) (K : s_W G M d C S P pc L st s) : s_W G M d' C' S' P' pc L st s := q_W_mono hd hC hS (fun r n h q => by obtain ⟨e, s, e2, q⟩ := q; exact ⟨e, s, e2, hP r s q⟩) K
