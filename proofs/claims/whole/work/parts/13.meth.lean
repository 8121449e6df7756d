theorem q_t1 {w : Cond} (h : w ∈ tables_1_1) : w ∈ lw_tbl := List.mem_append_right _ (List.mem_append_left _ h)
theorem q_t2 {w : Cond} (h : w ∈ tables_1_2) : w ∈ lw_tbl := List.mem_append_right _ (List.mem_append_right _ (List.mem_append_left _ h))
theorem q_t3 {w : Cond} (h : w ∈ tables_1_3) : w ∈ lw_tbl := List.mem_append_right _ (List.mem_append_right _ (List.mem_append_right _ (List.mem_append_left _ h)))
theorem q_t4 {w : Cond} (h : w ∈ tables_1_4) : w ∈ lw_tbl := List.mem_append_right _ (List.mem_append_right _ (List.mem_append_right _ (List.mem_append_right _ (List.mem_append_left _ h))))
theorem q_t5 {w : Cond} (h : w ∈ tables_1_5) : w ∈ lw_tbl := List.mem_append_right _ (List.mem_append_right _ (List.mem_append_right _ (List.mem_append_right _ (List.mem_append_right _ (List.mem_append_left _ h)))))
theorem q_t6 {w : Cond} (h : w ∈ tables_1_6) : w ∈ lw_tbl := List.mem_append_right _ (List.mem_append_right _ (List.mem_append_right _ (List.mem_append_right _ (List.mem_append_right _ (List.mem_append_right _ (List.mem_append_left _ h))))))
theorem q_t7 {w : Cond} (h : w ∈ tables_1_7) : w ∈ lw_tbl := List.mem_append_right _ (List.mem_append_right _ (List.mem_append_right _ (List.mem_append_right _ (List.mem_append_right _ (List.mem_append_right _ (List.mem_append_right _ (List.mem_append_left _ h)))))))
theorem q_t8 {w : Cond} (h : w ∈ tables_1_8) : w ∈ lw_tbl := List.mem_append_right _ (List.mem_append_right _ (List.mem_append_right _ (List.mem_append_right _ (List.mem_append_right _ (List.mem_append_right _ (List.mem_append_right _ (List.mem_append_right _ (h))))))))
theorem iniX0 : Cond.initialized RX0 ∈ q_tw := (q_in (q_t1 (List.mem_of_getElem? (i := 8) (by decide +kernel))) (by decide +kernel))
theorem iniX1 : Cond.initialized RX1 ∈ q_tw := (q_in (q_t1 (List.mem_of_getElem? (i := 10) (by decide +kernel))) (by decide +kernel))
theorem iniX2 : Cond.initialized RX2 ∈ q_tw := (q_in (q_t1 (List.mem_of_getElem? (i := 5) (by decide +kernel))) (by decide +kernel))
theorem iniX3 : Cond.initialized RX3 ∈ q_tw := (q_in (q_t1 (List.mem_of_getElem? (i := 6) (by decide +kernel))) (by decide +kernel))
theorem iniX4 : Cond.initialized RX4 ∈ q_tw := (q_in (q_t1 (List.mem_of_getElem? (i := 12) (by decide +kernel))) (by decide +kernel))
theorem iniX5 : Cond.initialized RX5 ∈ q_tw := (q_in (q_t1 (List.mem_of_getElem? (i := 3) (by decide +kernel))) (by decide +kernel))
theorem iniX6 : Cond.initialized RX6 ∈ q_tw := (q_in (q_t1 (List.mem_of_getElem? (i := 7) (by decide +kernel))) (by decide +kernel))
theorem iniX7 : Cond.initialized RX7 ∈ q_tw := (q_in (q_t1 (List.mem_of_getElem? (i := 2) (by decide +kernel))) (by decide +kernel))
theorem iniX8 : Cond.initialized RX8 ∈ q_tw := (q_in (q_t1 (List.mem_of_getElem? (i := 9) (by decide +kernel))) (by decide +kernel))
theorem iniX9 : Cond.initialized RX9 ∈ q_tw := (q_in (q_t1 (List.mem_of_getElem? (i := 11) (by decide +kernel))) (by decide +kernel))
theorem iniX10 : Cond.initialized RX10 ∈ q_tw := (q_in (q_t1 (List.mem_of_getElem? (i := 4) (by decide +kernel))) (by decide +kernel))
theorem iniX11 : Cond.initialized RX11 ∈ q_tw := (q_in (q_t1 (List.mem_of_getElem? (i := 1) (by decide +kernel))) (by decide +kernel))
theorem iniX12 : Cond.initialized RX12 ∈ q_tw := (q_in (q_t1 (List.mem_of_getElem? (i := 13) (by decide +kernel))) (by decide +kernel))
theorem iniL : Cond.initialized RL ∈ q_tw := (q_in (q_t1 (List.mem_of_getElem? (i := 0) (by decide +kernel))) (by decide +kernel))
def mX11_init : q_M := (RX11, yX11_init, cX11_init, 1, none, [])
theorem okX11_init : q_Mok mX11_init := ⟨by decide +kernel, ⟨by decide +kernel, by decide +kernel⟩, (q_in (q_t1 (List.mem_of_getElem? (i := 27) (by decide +kernel))) (by decide +kernel)), iniX11, rfl, Nat.le_of_ble_eq_true rfl⟩
theorem npX11_init : q_np mX11_init 0 := by unfold q_np; decide +kernel
def mX7_init : q_M := (RX7, yX7_init, cX7_init, 1, none, [])
theorem okX7_init : q_Mok mX7_init := ⟨by decide +kernel, ⟨by decide +kernel, by decide +kernel⟩, (q_in (q_t1 (List.mem_of_getElem? (i := 35) (by decide +kernel))) (by decide +kernel)), iniX7, rfl, Nat.le_of_ble_eq_true rfl⟩
theorem npX7_init : q_np mX7_init 0 := by unfold q_np; decide +kernel
def mX5_init : q_M := (RX5, yX5_init, cX5_init, 1, none, [])
theorem okX5_init : q_Mok mX5_init := ⟨by decide +kernel, ⟨by decide +kernel, by decide +kernel⟩, (q_in (q_t1 (List.mem_of_getElem? (i := 43) (by decide +kernel))) (by decide +kernel)), iniX5, rfl, Nat.le_of_ble_eq_true rfl⟩
theorem npX5_init : q_np mX5_init 0 := by unfold q_np; decide +kernel
def mX10_init : q_M := (RX10, yX10_init, cX10_init, 1, none, [])
theorem okX10_init : q_Mok mX10_init := ⟨by decide +kernel, ⟨by decide +kernel, by decide +kernel⟩, (q_in (q_t1 (List.mem_of_getElem? (i := 161) (by decide +kernel))) (by decide +kernel)), iniX10, rfl, Nat.le_of_ble_eq_true rfl⟩
theorem npX10_init : q_np mX10_init 0 := by unfold q_np; decide +kernel
def mX2_init : q_M := (RX2, yX2_init, cX2_init, 1, none, [])
theorem okX2_init : q_Mok mX2_init := ⟨by decide +kernel, ⟨by decide +kernel, by decide +kernel⟩, (q_in (q_t1 (List.mem_of_getElem? (i := 216) (by decide +kernel))) (by decide +kernel)), iniX2, rfl, Nat.le_of_ble_eq_true rfl⟩
theorem npX2_init : q_np mX2_init 0 := by unfold q_np; decide +kernel
def mX3_init : q_M := (RX3, yX3_init, cX3_init, 1, none, [])
theorem okX3_init : q_Mok mX3_init := ⟨by decide +kernel, ⟨by decide +kernel, by decide +kernel⟩, (q_in (q_t2 (List.mem_of_getElem? (i := 2) (by decide +kernel))) (by decide +kernel)), iniX3, rfl, Nat.le_of_ble_eq_true rfl⟩
theorem npX3_init : q_np mX3_init 0 := by unfold q_np; decide +kernel
def mX6_init : q_M := (RX6, yX6_init, cX6_init, 1, none, [])
theorem okX6_init : q_Mok mX6_init := ⟨by decide +kernel, ⟨by decide +kernel, by decide +kernel⟩, (q_in (q_t2 (List.mem_of_getElem? (i := 21) (by decide +kernel))) (by decide +kernel)), iniX6, rfl, Nat.le_of_ble_eq_true rfl⟩
theorem npX6_init : q_np mX6_init 0 := by unfold q_np; decide +kernel
def mX0_init : q_M := (RX0, yX0_init, cX0_init, 1, none, [])
theorem okX0_init : q_Mok mX0_init := ⟨by decide +kernel, ⟨by decide +kernel, by decide +kernel⟩, (q_in (q_t2 (List.mem_of_getElem? (i := 40) (by decide +kernel))) (by decide +kernel)), iniX0, rfl, Nat.le_of_ble_eq_true rfl⟩
theorem npX0_init : q_np mX0_init 0 := by unfold q_np; decide +kernel
def mX8_init : q_M := (RX8, yX8_init, cX8_init, 1, none, [])
theorem okX8_init : q_Mok mX8_init := ⟨by decide +kernel, ⟨by decide +kernel, by decide +kernel⟩, (q_in (q_t2 (List.mem_of_getElem? (i := 63) (by decide +kernel))) (by decide +kernel)), iniX8, rfl, Nat.le_of_ble_eq_true rfl⟩
theorem npX8_init : q_np mX8_init 0 := by unfold q_np; decide +kernel
def mX1_init : q_M := (RX1, yX1_init, cX1_init, 1, none, [])
theorem okX1_init : q_Mok mX1_init := ⟨by decide +kernel, ⟨by decide +kernel, by decide +kernel⟩, (q_in (q_t2 (List.mem_of_getElem? (i := 105) (by decide +kernel))) (by decide +kernel)), iniX1, rfl, Nat.le_of_ble_eq_true rfl⟩
theorem npX1_init : q_np mX1_init 0 := by unfold q_np; decide +kernel
def mX9_init : q_M := (RX9, yX9_init, cX9_init, 1, none, [])
theorem okX9_init : q_Mok mX9_init := ⟨by decide +kernel, ⟨by decide +kernel, by decide +kernel⟩, (q_in (q_t2 (List.mem_of_getElem? (i := 124) (by decide +kernel))) (by decide +kernel)), iniX9, rfl, Nat.le_of_ble_eq_true rfl⟩
theorem npX9_init : q_np mX9_init 0 := by unfold q_np; decide +kernel
def mX4_init : q_M := (RX4, yX4_init, cX4_init, 1, none, [])
theorem okX4_init : q_Mok mX4_init := ⟨by decide +kernel, ⟨by decide +kernel, by decide +kernel⟩, (q_in (q_t2 (List.mem_of_getElem? (i := 157) (by decide +kernel))) (by decide +kernel)), iniX4, rfl, Nat.le_of_ble_eq_true rfl⟩
theorem npX4_init : q_np mX4_init 0 := by unfold q_np; decide +kernel
def mX11_makespan : q_M := (RX11, yX11_makespan, cX11_makespan, 1, (some .int), [])
theorem okX11_makespan : q_Mok mX11_makespan := ⟨by decide +kernel, ⟨by decide +kernel, by decide +kernel⟩, (q_in (q_t2 (List.mem_of_getElem? (i := 212) (by decide +kernel))) (by decide +kernel)), iniX11, rfl, Nat.le_of_ble_eq_true rfl⟩
theorem npX11_makespan : q_np mX11_makespan 0 := by unfold q_np; decide +kernel
def mX11_presentSpan : q_M := (RX11, yX11_presentSpan, cX11_presentSpan, 1, (some .int), [])
theorem okX11_presentSpan : q_Mok mX11_presentSpan := ⟨by decide +kernel, ⟨by decide +kernel, by decide +kernel⟩, (q_in (q_t2 (List.mem_of_getElem? (i := 216) (by decide +kernel))) (by decide +kernel)), iniX11, rfl, Nat.le_of_ble_eq_true rfl⟩
theorem npX11_presentSpan : q_np mX11_presentSpan 0 := by unfold q_np; decide +kernel
def mX10_compute : q_M := (RX10, yX10_compute, cX10_compute, 6, (some .boolean), [])
theorem okX10_compute : q_Mok mX10_compute := ⟨by decide +kernel, ⟨by decide +kernel, by decide +kernel⟩, (q_in (q_t2 (List.mem_of_getElem? (i := 220) (by decide +kernel))) (by decide +kernel)), iniX10, rfl, Nat.le_of_ble_eq_true rfl⟩
theorem npX10_compute : q_np mX10_compute 1 := by unfold q_np; decide +kernel
def mX10_clear : q_M := (RX10, yX10_clear, cX10_clear, 2, none, [])
theorem okX10_clear : q_Mok mX10_clear := ⟨by decide +kernel, ⟨by decide +kernel, by decide +kernel⟩, (q_in (q_t2 (List.mem_of_getElem? (i := 224) (by decide +kernel))) (by decide +kernel)), iniX10, rfl, Nat.le_of_ble_eq_true rfl⟩
theorem npX10_clear : q_np mX10_clear 0 := by unfold q_np; decide +kernel
def mX10_isNext : q_M := (RX10, yX10_isNext, cX10_isNext, 5, (some .boolean), [])
theorem okX10_isNext : q_Mok mX10_isNext := ⟨by decide +kernel, ⟨by decide +kernel, by decide +kernel⟩, (q_in (q_t2 (List.mem_of_getElem? (i := 228) (by decide +kernel))) (by decide +kernel)), iniX10, rfl, Nat.le_of_ble_eq_true rfl⟩
theorem npX10_isNext : q_np mX10_isNext 2 := by unfold q_np; decide +kernel
def mX10_place : q_M := (RX10, yX10_place, cX10_place, 9, none, [])
theorem okX10_place : q_Mok mX10_place := ⟨by decide +kernel, ⟨by decide +kernel, by decide +kernel⟩, (q_in (q_t2 (List.mem_of_getElem? (i := 232) (by decide +kernel))) (by decide +kernel)), iniX10, rfl, Nat.le_of_ble_eq_true rfl⟩
theorem npX10_place : q_np mX10_place 2 := by unfold q_np; decide +kernel
def mX7_readyTime : q_M := (RX7, yX7_readyTime, cX7_readyTime, 8, (some .int), [])
theorem okX7_readyTime : q_Mok mX7_readyTime := ⟨by decide +kernel, ⟨by decide +kernel, by decide +kernel⟩, (q_in (q_t2 (List.mem_of_getElem? (i := 236) (by decide +kernel))) (by decide +kernel)), iniX7, rfl, Nat.le_of_ble_eq_true rfl⟩
theorem npX7_readyTime : q_np mX7_readyTime 3 := by unfold q_np; decide +kernel
def mX7_startFrom : q_M := (RX7, yX7_startFrom, cX7_startFrom, 9, (some .int), [])
theorem okX7_startFrom : q_Mok mX7_startFrom := ⟨by decide +kernel, ⟨by decide +kernel, by decide +kernel⟩, (q_in (q_t3 (List.mem_of_getElem? (i := 3) (by decide +kernel))) (by decide +kernel)), iniX7, rfl, Nat.le_of_ble_eq_true rfl⟩
theorem npX7_startFrom : q_np mX7_startFrom 2 := by unfold q_np; decide +kernel
def mX11_pathLength : q_M := (RX11, yX11_pathLength, cX11_pathLength, 1, (some .int), [])
theorem okX11_pathLength : q_Mok mX11_pathLength := ⟨by decide +kernel, ⟨by decide +kernel, by decide +kernel⟩, (q_in (q_t3 (List.mem_of_getElem? (i := 7) (by decide +kernel))) (by decide +kernel)), iniX11, rfl, Nat.le_of_ble_eq_true rfl⟩
theorem npX11_pathLength : q_np mX11_pathLength 0 := by unfold q_np; decide +kernel
def mX11_traceCritical : q_M := (RX11, yX11_traceCritical, cX11_traceCritical, 1, none, [])
theorem okX11_traceCritical : q_Mok mX11_traceCritical := ⟨by decide +kernel, ⟨by decide +kernel, by decide +kernel⟩, (q_in (q_t3 (List.mem_of_getElem? (i := 11) (by decide +kernel))) (by decide +kernel)), iniX11, rfl, Nat.le_of_ble_eq_true rfl⟩
theorem npX11_traceCritical : q_np mX11_traceCritical 0 := by unfold q_np; decide +kernel
def mX2_trace : q_M := (RX2, yX2_trace, cX2_trace, 3, none, [])
theorem okX2_trace : q_Mok mX2_trace := ⟨by decide +kernel, ⟨by decide +kernel, by decide +kernel⟩, (q_in (q_t3 (List.mem_of_getElem? (i := 15) (by decide +kernel))) (by decide +kernel)), iniX2, rfl, Nat.le_of_ble_eq_true rfl⟩
theorem npX2_trace : q_np mX2_trace 2 := by unfold q_np; decide +kernel
def mX2_collectBackwards : q_M := (RX2, yX2_collectBackwards, cX2_collectBackwards, 5, none, [])
theorem okX2_collectBackwards : q_Mok mX2_collectBackwards := ⟨by decide +kernel, ⟨by decide +kernel, by decide +kernel⟩, (q_in (q_t3 (List.mem_of_getElem? (i := 19) (by decide +kernel))) (by decide +kernel)), iniX2, rfl, Nat.le_of_ble_eq_true rfl⟩
theorem npX2_collectBackwards : q_np mX2_collectBackwards 2 := by unfold q_np; decide +kernel
def mX2_lastOf : q_M := (RX2, yX2_lastOf, cX2_lastOf, 4, (some .int), [])
theorem okX2_lastOf : q_Mok mX2_lastOf := ⟨by decide +kernel, ⟨by decide +kernel, by decide +kernel⟩, (q_in (q_t3 (List.mem_of_getElem? (i := 22) (by decide +kernel))) (by decide +kernel)), iniX2, rfl, Nat.le_of_ble_eq_true rfl⟩
theorem npX2_lastOf : q_np mX2_lastOf 2 := by unfold q_np; decide +kernel
def mX2_before : q_M := (RX2, yX2_before, cX2_before, 6, (some .int), [])
theorem okX2_before : q_Mok mX2_before := ⟨by decide +kernel, ⟨by decide +kernel, by decide +kernel⟩, (q_in (q_t3 (List.mem_of_getElem? (i := 25) (by decide +kernel))) (by decide +kernel)), iniX2, rfl, Nat.le_of_ble_eq_true rfl⟩
theorem npX2_before : q_np mX2_before 3 := by unfold q_np; decide +kernel
def mX7_jobPredecessor : q_M := (RX7, yX7_jobPredecessor, cX7_jobPredecessor, 3, (some .int), [])
theorem okX7_jobPredecessor : q_Mok mX7_jobPredecessor := ⟨by decide +kernel, ⟨by decide +kernel, by decide +kernel⟩, (q_in (q_t3 (List.mem_of_getElem? (i := 29) (by decide +kernel))) (by decide +kernel)), iniX7, rfl, Nat.le_of_ble_eq_true rfl⟩
theorem npX7_jobPredecessor : q_np mX7_jobPredecessor 1 := by unfold q_np; decide +kernel
def mX7_setupBetween : q_M := (RX7, yX7_setupBetween, cX7_setupBetween, 3, (some .int), [])
theorem okX7_setupBetween : q_Mok mX7_setupBetween := ⟨by decide +kernel, ⟨by decide +kernel, by decide +kernel⟩, (q_in (q_t3 (List.mem_of_getElem? (i := 33) (by decide +kernel))) (by decide +kernel)), iniX7, rfl, Nat.le_of_ble_eq_true rfl⟩
theorem npX7_setupBetween : q_np mX7_setupBetween 2 := by unfold q_np; decide +kernel
def mX2_turnRound : q_M := (RX2, yX2_turnRound, cX2_turnRound, 4, none, [])
theorem okX2_turnRound : q_Mok mX2_turnRound := ⟨by decide +kernel, ⟨by decide +kernel, by decide +kernel⟩, (q_in (q_t3 (List.mem_of_getElem? (i := 37) (by decide +kernel))) (by decide +kernel)), iniX2, rfl, Nat.le_of_ble_eq_true rfl⟩
theorem npX2_turnRound : q_np mX2_turnRound 0 := by unfold q_np; decide +kernel
def mX2_countBlocks : q_M := (RX2, yX2_countBlocks, cX2_countBlocks, 5, none, [])
theorem okX2_countBlocks : q_Mok mX2_countBlocks := ⟨by decide +kernel, ⟨by decide +kernel, by decide +kernel⟩, (q_in (q_t3 (List.mem_of_getElem? (i := 41) (by decide +kernel))) (by decide +kernel)), iniX2, rfl, Nat.le_of_ble_eq_true rfl⟩
theorem npX2_countBlocks : q_np mX2_countBlocks 1 := by unfold q_np; decide +kernel
def mX11_blocks : q_M := (RX11, yX11_blocks, cX11_blocks, 1, (some .int), [])
theorem okX11_blocks : q_Mok mX11_blocks := ⟨by decide +kernel, ⟨by decide +kernel, by decide +kernel⟩, (q_in (q_t3 (List.mem_of_getElem? (i := 45) (by decide +kernel))) (by decide +kernel)), iniX11, rfl, Nat.le_of_ble_eq_true rfl⟩
theorem npX11_blocks : q_np mX11_blocks 0 := by unfold q_np; decide +kernel
def mX11_shiftBottlenecks : q_M := (RX11, yX11_shiftBottlenecks, cX11_shiftBottlenecks, 1, (some .int), [])
theorem okX11_shiftBottlenecks : q_Mok mX11_shiftBottlenecks := ⟨by decide +kernel, ⟨by decide +kernel, by decide +kernel⟩, (q_in (q_t3 (List.mem_of_getElem? (i := 49) (by decide +kernel))) (by decide +kernel)), iniX11, rfl, Nat.le_of_ble_eq_true rfl⟩
theorem npX11_shiftBottlenecks : q_np mX11_shiftBottlenecks 0 := by unfold q_np; decide +kernel
def mX0_build : q_M := (RX0, yX0_build, cX0_build, 5, none, [])
theorem okX0_build : q_Mok mX0_build := ⟨by decide +kernel, ⟨by decide +kernel, by decide +kernel⟩, (q_in (q_t3 (List.mem_of_getElem? (i := 53) (by decide +kernel))) (by decide +kernel)), iniX0, rfl, Nat.le_of_ble_eq_true rfl⟩
theorem npX0_build : q_np mX0_build 2 := by unfold q_np; decide +kernel
def mX0_closeNext : q_M := (RX0, yX0_closeNext, cX0_closeNext, 7, none, [])
theorem okX0_closeNext : q_Mok mX0_closeNext := ⟨by decide +kernel, ⟨by decide +kernel, by decide +kernel⟩, (q_in (q_t3 (List.mem_of_getElem? (i := 57) (by decide +kernel))) (by decide +kernel)), iniX0, rfl, Nat.le_of_ble_eq_true rfl⟩
theorem npX0_closeNext : q_np mX0_closeNext 3 := by unfold q_np; decide +kernel
def mX6_explore : q_M := (RX6, yX6_explore, cX6_explore, 10, none, [])
theorem okX6_explore : q_Mok mX6_explore := ⟨by decide +kernel, ⟨by decide +kernel, by decide +kernel⟩, (q_in (q_t3 (List.mem_of_getElem? (i := 61) (by decide +kernel))) (by decide +kernel)), iniX6, rfl, Nat.le_of_ble_eq_true rfl⟩
theorem npX6_explore : q_np mX6_explore 3 := by unfold q_np; decide +kernel
def mX11_copyRow : q_M := (RX11, yX11_copyRow, cX11_copyRow, 2, none, [])
theorem okX11_copyRow : q_Mok mX11_copyRow := ⟨by decide +kernel, ⟨by decide +kernel, by decide +kernel⟩, (q_in (q_t3 (List.mem_of_getElem? (i := 65) (by decide +kernel))) (by decide +kernel)), iniX11, rfl, Nat.le_of_ble_eq_true rfl⟩
theorem npX11_copyRow : q_np mX11_copyRow 2 := by unfold q_np; decide +kernel
def mX6_sort : q_M := (RX6, yX6_sort, cX6_sort, 4, none, [])
theorem okX6_sort : q_Mok mX6_sort := ⟨by decide +kernel, ⟨by decide +kernel, by decide +kernel⟩, (q_in (q_t3 (List.mem_of_getElem? (i := 74) (by decide +kernel))) (by decide +kernel)), iniX6, rfl, Nat.le_of_ble_eq_true rfl⟩
theorem npX6_sort : q_np mX6_sort 2 := by unfold q_np; decide +kernel
def mX6_exchange : q_M := (RX6, yX6_exchange, cX6_exchange, 4, none, [])
theorem okX6_exchange : q_Mok mX6_exchange := ⟨by decide +kernel, ⟨by decide +kernel, by decide +kernel⟩, (q_in (q_t3 (List.mem_of_getElem? (i := 77) (by decide +kernel))) (by decide +kernel)), iniX6, rfl, Nat.le_of_ble_eq_true rfl⟩
theorem npX6_exchange : q_np mX6_exchange 3 := by unfold q_np; decide +kernel
def mX6_advance : q_M := (RX6, yX6_advance, cX6_advance, 6, (some .boolean), [])
theorem okX6_advance : q_Mok mX6_advance := ⟨by decide +kernel, ⟨by decide +kernel, by decide +kernel⟩, (q_in (q_t3 (List.mem_of_getElem? (i := 80) (by decide +kernel))) (by decide +kernel)), iniX6, rfl, Nat.le_of_ble_eq_true rfl⟩
theorem npX6_advance : q_np mX6_advance 2 := by unfold q_np; decide +kernel
def mX6_install : q_M := (RX6, yX6_install, cX6_install, 5, (some .int), [])
theorem okX6_install : q_Mok mX6_install := ⟨by decide +kernel, ⟨by decide +kernel, by decide +kernel⟩, (q_in (q_t3 (List.mem_of_getElem? (i := 85) (by decide +kernel))) (by decide +kernel)), iniX6, rfl, Nat.le_of_ble_eq_true rfl⟩
theorem npX6_install : q_np mX6_install 2 := by unfold q_np; decide +kernel
def mX11_tabuSteps : q_M := (RX11, yX11_tabuSteps, cX11_tabuSteps, 1, (some .int), [])
theorem okX11_tabuSteps : q_Mok mX11_tabuSteps := ⟨by decide +kernel, ⟨by decide +kernel, by decide +kernel⟩, (q_in (q_t3 (List.mem_of_getElem? (i := 89) (by decide +kernel))) (by decide +kernel)), iniX11, rfl, Nat.le_of_ble_eq_true rfl⟩
theorem npX11_tabuSteps : q_np mX11_tabuSteps 0 := by unfold q_np; decide +kernel
def mX11_lowerBound : q_M := (RX11, yX11_lowerBound, cX11_lowerBound, 1, (some .int), [])
theorem okX11_lowerBound : q_Mok mX11_lowerBound := ⟨by decide +kernel, ⟨by decide +kernel, by decide +kernel⟩, (q_in (q_t3 (List.mem_of_getElem? (i := 93) (by decide +kernel))) (by decide +kernel)), iniX11, rfl, Nat.le_of_ble_eq_true rfl⟩
theorem npX11_lowerBound : q_np mX11_lowerBound 0 := by unfold q_np; decide +kernel
def mX1_ofShop : q_M := (RX1, yX1_ofShop, cX1_ofShop, 4, (some .int), [])
theorem okX1_ofShop : q_Mok mX1_ofShop := ⟨by decide +kernel, ⟨by decide +kernel, by decide +kernel⟩, (q_in (q_t3 (List.mem_of_getElem? (i := 97) (by decide +kernel))) (by decide +kernel)), iniX1, rfl, Nat.le_of_ble_eq_true rfl⟩
theorem npX1_ofShop : q_np mX1_ofShop 1 := by unfold q_np; decide +kernel
def mX1_ofMachine : q_M := (RX1, yX1_ofMachine, cX1_ofMachine, 7, (some .int), [])
theorem okX1_ofMachine : q_Mok mX1_ofMachine := ⟨by decide +kernel, ⟨by decide +kernel, by decide +kernel⟩, (q_in (q_t3 (List.mem_of_getElem? (i := 101) (by decide +kernel))) (by decide +kernel)), iniX1, rfl, Nat.le_of_ble_eq_true rfl⟩
theorem npX1_ofMachine : q_np mX1_ofMachine 2 := by unfold q_np; decide +kernel
def mX1_collect : q_M := (RX1, yX1_collect, cX1_collect, 6, none, [])
theorem okX1_collect : q_Mok mX1_collect := ⟨by decide +kernel, ⟨by decide +kernel, by decide +kernel⟩, (q_in (q_t3 (List.mem_of_getElem? (i := 105) (by decide +kernel))) (by decide +kernel)), iniX1, rfl, Nat.le_of_ble_eq_true rfl⟩
theorem npX1_collect : q_np mX1_collect 2 := by unfold q_np; decide +kernel
def mX1_work : q_M := (RX1, yX1_work, cX1_work, 6, (some .int), [])
theorem okX1_work : q_Mok mX1_work := ⟨by decide +kernel, ⟨by decide +kernel, by decide +kernel⟩, (q_in (q_t3 (List.mem_of_getElem? (i := 108) (by decide +kernel))) (by decide +kernel)), iniX1, rfl, Nat.le_of_ble_eq_true rfl⟩
theorem npX1_work : q_np mX1_work 4 := by unfold q_np; decide +kernel
def mX1_choose : q_M := (RX1, yX1_choose, cX1_choose, 5, (some .int), [])
theorem okX1_choose : q_Mok mX1_choose := ⟨by decide +kernel, ⟨by decide +kernel, by decide +kernel⟩, (q_in (q_t3 (List.mem_of_getElem? (i := 112) (by decide +kernel))) (by decide +kernel)), iniX1, rfl, Nat.le_of_ble_eq_true rfl⟩
theorem npX1_choose : q_np mX1_choose 1 := by unfold q_np; decide +kernel
def mX11_save : q_M := (RX11, yX11_save, cX11_save, 1, none, [])
theorem okX11_save : q_Mok mX11_save := ⟨by decide +kernel, ⟨by decide +kernel, by decide +kernel⟩, (q_in (q_t3 (List.mem_of_getElem? (i := 117) (by decide +kernel))) (by decide +kernel)), iniX11, rfl, Nat.le_of_ble_eq_true rfl⟩
theorem npX11_save : q_np mX11_save 0 := by unfold q_np; decide +kernel
def mX7_copyFrom : q_M := (RX7, yX7_copyFrom, cX7_copyFrom, 2, none, [])
theorem okX7_copyFrom : q_Mok mX7_copyFrom := ⟨by decide +kernel, ⟨by decide +kernel, by decide +kernel⟩, (q_in (q_t3 (List.mem_of_getElem? (i := 121) (by decide +kernel))) (by decide +kernel)), iniX7, rfl, Nat.le_of_ble_eq_true rfl⟩
theorem npX7_copyFrom : q_np mX7_copyFrom 1 := by unfold q_np; decide +kernel
def mX11_copyRows : q_M := (RX11, yX11_copyRows, cX11_copyRows, 4, none, [])
theorem okX11_copyRows : q_Mok mX11_copyRows := ⟨by decide +kernel, ⟨by decide +kernel, by decide +kernel⟩, (q_in (q_t3 (List.mem_of_getElem? (i := 124) (by decide +kernel))) (by decide +kernel)), iniX11, rfl, Nat.le_of_ble_eq_true rfl⟩
theorem npX11_copyRows : q_np mX11_copyRows 2 := by unfold q_np; decide +kernel
def mX5_copyFrom : q_M := (RX5, yX5_copyFrom, cX5_copyFrom, 2, none, [])
theorem okX5_copyFrom : q_Mok mX5_copyFrom := ⟨by decide +kernel, ⟨by decide +kernel, by decide +kernel⟩, (q_in (q_t3 (List.mem_of_getElem? (i := 130) (by decide +kernel))) (by decide +kernel)), iniX5, rfl, Nat.le_of_ble_eq_true rfl⟩
theorem npX5_copyFrom : q_np mX5_copyFrom 1 := by unfold q_np; decide +kernel
def mL_addJob : q_M := (RL, yL_addJob, cL_addJob, 6, (some .int), [(0, 12, 15, 13), (0, 12, 19, 15)])
theorem okL_addJob : q_Mok mL_addJob := ⟨by decide +kernel, ⟨by decide +kernel, by decide +kernel⟩, (q_in (q_t3 (List.mem_of_getElem? (i := 135) (by decide +kernel))) (by decide +kernel)), iniL, rfl, Nat.le_of_ble_eq_true rfl⟩
theorem npL_addJob : q_np mL_addJob 5 := by unfold q_np; decide +kernel
def mX11_addJob : q_M := (RX11, yX11_addJob, cX11_addJob, 4, (some .int), [])
theorem okX11_addJob : q_Mok mX11_addJob := ⟨by decide +kernel, ⟨by decide +kernel, by decide +kernel⟩, (q_in (q_t3 (List.mem_of_getElem? (i := 141) (by decide +kernel))) (by decide +kernel)), iniX11, rfl, Nat.le_of_ble_eq_true rfl⟩
theorem npX11_addJob : q_np mX11_addJob 3 := by unfold q_np; decide +kernel
def mX11_jobFits : q_M := (RX11, yX11_jobFits, cX11_jobFits, 3, (some .boolean), [])
theorem okX11_jobFits : q_Mok mX11_jobFits := ⟨by decide +kernel, ⟨by decide +kernel, by decide +kernel⟩, (q_in (q_t3 (List.mem_of_getElem? (i := 144) (by decide +kernel))) (by decide +kernel)), iniX11, rfl, Nat.le_of_ble_eq_true rfl⟩
theorem npX11_jobFits : q_np mX11_jobFits 3 := by unfold q_np; decide +kernel
def mX11_within : q_M := (RX11, yX11_within, cX11_within, 2, (some .boolean), [])
theorem okX11_within : q_Mok mX11_within := ⟨by decide +kernel, ⟨by decide +kernel, by decide +kernel⟩, (q_in (q_t3 (List.mem_of_getElem? (i := 149) (by decide +kernel))) (by decide +kernel)), iniX11, rfl, Nat.le_of_ble_eq_true rfl⟩
theorem npX11_within : q_np mX11_within 2 := by unfold q_np; decide +kernel
def mX7_createJob : q_M := (RX7, yX7_createJob, cX7_createJob, 5, (some .int), [])
theorem okX7_createJob : q_Mok mX7_createJob := ⟨by decide +kernel, ⟨by decide +kernel, by decide +kernel⟩, (q_in (q_t3 (List.mem_of_getElem? (i := 238) (by decide +kernel))) (by decide +kernel)), iniX7, rfl, Nat.le_of_ble_eq_true rfl⟩
theorem npX7_createJob : q_np mX7_createJob 3 := by unfold q_np; decide +kernel
def mL_addOperation : q_M := (RL, yL_addOperation, cL_addOperation, 7, (some .int), [(0, 14, 17, 21), (0, 14, 21, 13), (0, 14, 25, 15)])
theorem okL_addOperation : q_Mok mL_addOperation := ⟨by decide +kernel, ⟨by decide +kernel, by decide +kernel⟩, (q_in (q_t4 (List.mem_of_getElem? (i := 1) (by decide +kernel))) (by decide +kernel)), iniL, rfl, Nat.le_of_ble_eq_true rfl⟩
theorem npL_addOperation : q_np mL_addOperation 6 := by unfold q_np; decide +kernel
def mX11_addOperation : q_M := (RX11, yX11_addOperation, cX11_addOperation, 5, (some .int), [])
theorem okX11_addOperation : q_Mok mX11_addOperation := ⟨by decide +kernel, ⟨by decide +kernel, by decide +kernel⟩, (q_in (q_t4 (List.mem_of_getElem? (i := 6) (by decide +kernel))) (by decide +kernel)), iniX11, rfl, Nat.le_of_ble_eq_true rfl⟩
theorem npX11_addOperation : q_np mX11_addOperation 4 := by unfold q_np; decide +kernel
def mX11_requireJob : q_M := (RX11, yX11_requireJob, cX11_requireJob, 2, none, [])
theorem okX11_requireJob : q_Mok mX11_requireJob := ⟨by decide +kernel, ⟨by decide +kernel, by decide +kernel⟩, (q_in (q_t4 (List.mem_of_getElem? (i := 10) (by decide +kernel))) (by decide +kernel)), iniX11, rfl, Nat.le_of_ble_eq_true rfl⟩
theorem npX11_requireJob : q_np mX11_requireJob 1 := by unfold q_np; decide +kernel
def mX11_requireMachine : q_M := (RX11, yX11_requireMachine, cX11_requireMachine, 1, none, [])
theorem okX11_requireMachine : q_Mok mX11_requireMachine := ⟨by decide +kernel, ⟨by decide +kernel, by decide +kernel⟩, (q_in (q_t4 (List.mem_of_getElem? (i := 29) (by decide +kernel))) (by decide +kernel)), iniX11, rfl, Nat.le_of_ble_eq_true rfl⟩
theorem npX11_requireMachine : q_np mX11_requireMachine 1 := by unfold q_np; decide +kernel
def mX11_isMachine : q_M := (RX11, yX11_isMachine, cX11_isMachine, 1, (some .boolean), [])
theorem okX11_isMachine : q_Mok mX11_isMachine := ⟨by decide +kernel, ⟨by decide +kernel, by decide +kernel⟩, (q_in (q_t4 (List.mem_of_getElem? (i := 32) (by decide +kernel))) (by decide +kernel)), iniX11, rfl, Nat.le_of_ble_eq_true rfl⟩
theorem npX11_isMachine : q_np mX11_isMachine 1 := by unfold q_np; decide +kernel
def mX11_durationFits : q_M := (RX11, yX11_durationFits, cX11_durationFits, 1, (some .boolean), [])
theorem okX11_durationFits : q_Mok mX11_durationFits := ⟨by decide +kernel, ⟨by decide +kernel, by decide +kernel⟩, (q_in (q_t4 (List.mem_of_getElem? (i := 36) (by decide +kernel))) (by decide +kernel)), iniX11, rfl, Nat.le_of_ble_eq_true rfl⟩
theorem npX11_durationFits : q_np mX11_durationFits 1 := by unfold q_np; decide +kernel
def mX11_isFamily : q_M := (RX11, yX11_isFamily, cX11_isFamily, 1, (some .boolean), [])
theorem okX11_isFamily : q_Mok mX11_isFamily := ⟨by decide +kernel, ⟨by decide +kernel, by decide +kernel⟩, (q_in (q_t4 (List.mem_of_getElem? (i := 39) (by decide +kernel))) (by decide +kernel)), iniX11, rfl, Nat.le_of_ble_eq_true rfl⟩
theorem npX11_isFamily : q_np mX11_isFamily 1 := by unfold q_np; decide +kernel
def mX7_accepts : q_M := (RX7, yX7_accepts, cX7_accepts, 4, (some .boolean), [])
theorem okX7_accepts : q_Mok mX7_accepts := ⟨by decide +kernel, ⟨by decide +kernel, by decide +kernel⟩, (q_in (q_t4 (List.mem_of_getElem? (i := 44) (by decide +kernel))) (by decide +kernel)), iniX7, rfl, Nat.le_of_ble_eq_true rfl⟩
theorem npX7_accepts : q_np mX7_accepts 2 := by unfold q_np; decide +kernel
def mX7_createOperation : q_M := (RX7, yX7_createOperation, cX7_createOperation, 7, (some .int), [])
theorem okX7_createOperation : q_Mok mX7_createOperation := ⟨by decide +kernel, ⟨by decide +kernel, by decide +kernel⟩, (q_in (q_t4 (List.mem_of_getElem? (i := 49) (by decide +kernel))) (by decide +kernel)), iniX7, rfl, Nat.le_of_ble_eq_true rfl⟩
theorem npX7_createOperation : q_np mX7_createOperation 4 := by unfold q_np; decide +kernel
def mX5_addLast : q_M := (RX5, yX5_addLast, cX5_addLast, 4, none, [])
theorem okX5_addLast : q_Mok mX5_addLast := ⟨by decide +kernel, ⟨by decide +kernel, by decide +kernel⟩, (q_in (q_t4 (List.mem_of_getElem? (i := 53) (by decide +kernel))) (by decide +kernel)), iniX5, rfl, Nat.le_of_ble_eq_true rfl⟩
theorem npX5_addLast : q_np mX5_addLast 2 := by unfold q_np; decide +kernel
def mL_setJob : q_M := (RL, yL_setJob, cL_setJob, 6, (some .int), [(0, 12, 15, 21), (0, 12, 19, 13)])
theorem okL_setJob : q_Mok mL_setJob := ⟨by decide +kernel, ⟨by decide +kernel, by decide +kernel⟩, (q_in (q_t4 (List.mem_of_getElem? (i := 56) (by decide +kernel))) (by decide +kernel)), iniL, rfl, Nat.le_of_ble_eq_true rfl⟩
theorem npL_setJob : q_np mL_setJob 5 := by unfold q_np; decide +kernel
def mX11_setJob : q_M := (RX11, yX11_setJob, cX11_setJob, 5, (some .int), [])
theorem okX11_setJob : q_Mok mX11_setJob := ⟨by decide +kernel, ⟨by decide +kernel, by decide +kernel⟩, (q_in (q_t4 (List.mem_of_getElem? (i := 60) (by decide +kernel))) (by decide +kernel)), iniX11, rfl, Nat.le_of_ble_eq_true rfl⟩
theorem npX11_setJob : q_np mX11_setJob 3 := by unfold q_np; decide +kernel
def mL_setDuration : q_M := (RL, yL_setDuration, cL_setDuration, 5, (some .int), [(0, 10, 13, 21), (0, 10, 17, 13)])
theorem okL_setDuration : q_Mok mL_setDuration := ⟨by decide +kernel, ⟨by decide +kernel, by decide +kernel⟩, (q_in (q_t4 (List.mem_of_getElem? (i := 64) (by decide +kernel))) (by decide +kernel)), iniL, rfl, Nat.le_of_ble_eq_true rfl⟩
theorem npL_setDuration : q_np mL_setDuration 4 := by unfold q_np; decide +kernel
def mX11_setDuration : q_M := (RX11, yX11_setDuration, cX11_setDuration, 4, (some .int), [])
theorem okX11_setDuration : q_Mok mX11_setDuration := ⟨by decide +kernel, ⟨by decide +kernel, by decide +kernel⟩, (q_in (q_t4 (List.mem_of_getElem? (i := 68) (by decide +kernel))) (by decide +kernel)), iniX11, rfl, Nat.le_of_ble_eq_true rfl⟩
theorem npX11_setDuration : q_np mX11_setDuration 2 := by unfold q_np; decide +kernel
def mX11_requireOperation : q_M := (RX11, yX11_requireOperation, cX11_requireOperation, 2, none, [])
theorem okX11_requireOperation : q_Mok mX11_requireOperation := ⟨by decide +kernel, ⟨by decide +kernel, by decide +kernel⟩, (q_in (q_t4 (List.mem_of_getElem? (i := 72) (by decide +kernel))) (by decide +kernel)), iniX11, rfl, Nat.le_of_ble_eq_true rfl⟩
theorem npX11_requireOperation : q_np mX11_requireOperation 1 := by unfold q_np; decide +kernel
def mL_setSetup : q_M := (RL, yL_setSetup, cL_setSetup, 6, (some .int), [(0, 12, 15, 21), (0, 12, 19, 13)])
theorem okL_setSetup : q_Mok mL_setSetup := ⟨by decide +kernel, ⟨by decide +kernel, by decide +kernel⟩, (q_in (q_t4 (List.mem_of_getElem? (i := 77) (by decide +kernel))) (by decide +kernel)), iniL, rfl, Nat.le_of_ble_eq_true rfl⟩
theorem npL_setSetup : q_np mL_setSetup 5 := by unfold q_np; decide +kernel
def mX11_setSetup : q_M := (RX11, yX11_setSetup, cX11_setSetup, 5, (some .int), [])
theorem okX11_setSetup : q_Mok mX11_setSetup := ⟨by decide +kernel, ⟨by decide +kernel, by decide +kernel⟩, (q_in (q_t4 (List.mem_of_getElem? (i := 81) (by decide +kernel))) (by decide +kernel)), iniX11, rfl, Nat.le_of_ble_eq_true rfl⟩
theorem npX11_setSetup : q_np mX11_setSetup 3 := by unfold q_np; decide +kernel
def mL_addBreakdown : q_M := (RL, yL_addBreakdown, cL_addBreakdown, 6, (some .int), [(0, 12, 15, 21), (0, 12, 19, 13), (0, 12, 23, 15)])
theorem okL_addBreakdown : q_Mok mL_addBreakdown := ⟨by decide +kernel, ⟨by decide +kernel, by decide +kernel⟩, (q_in (q_t4 (List.mem_of_getElem? (i := 86) (by decide +kernel))) (by decide +kernel)), iniL, rfl, Nat.le_of_ble_eq_true rfl⟩
theorem npL_addBreakdown : q_np mL_addBreakdown 5 := by unfold q_np; decide +kernel
def mX11_addBreakdown : q_M := (RX11, yX11_addBreakdown, cX11_addBreakdown, 4, (some .int), [])
theorem okX11_addBreakdown : q_Mok mX11_addBreakdown := ⟨by decide +kernel, ⟨by decide +kernel, by decide +kernel⟩, (q_in (q_t4 (List.mem_of_getElem? (i := 90) (by decide +kernel))) (by decide +kernel)), iniX11, rfl, Nat.le_of_ble_eq_true rfl⟩
theorem npX11_addBreakdown : q_np mX11_addBreakdown 3 := by unfold q_np; decide +kernel
def mX7_createBreakdown : q_M := (RX7, yX7_createBreakdown, cX7_createBreakdown, 5, (some .int), [])
theorem okX7_createBreakdown : q_Mok mX7_createBreakdown := ⟨by decide +kernel, ⟨by decide +kernel, by decide +kernel⟩, (q_in (q_t4 (List.mem_of_getElem? (i := 96) (by decide +kernel))) (by decide +kernel)), iniX7, rfl, Nat.le_of_ble_eq_true rfl⟩
theorem npX7_createBreakdown : q_np mX7_createBreakdown 3 := by unfold q_np; decide +kernel
def mL_clearBreakdowns : q_M := (RL, yL_clearBreakdowns, cL_clearBreakdowns, 4, (some .int), [(0, 9, 12, 21)])
theorem okL_clearBreakdowns : q_Mok mL_clearBreakdowns := ⟨by decide +kernel, ⟨by decide +kernel, by decide +kernel⟩, (q_in (q_t4 (List.mem_of_getElem? (i := 99) (by decide +kernel))) (by decide +kernel)), iniL, rfl, Nat.le_of_ble_eq_true rfl⟩
theorem npL_clearBreakdowns : q_np mL_clearBreakdowns 3 := by unfold q_np; decide +kernel
def mX11_clearBreakdowns : q_M := (RX11, yX11_clearBreakdowns, cX11_clearBreakdowns, 3, (some .int), [])
theorem okX11_clearBreakdowns : q_Mok mX11_clearBreakdowns := ⟨by decide +kernel, ⟨by decide +kernel, by decide +kernel⟩, (q_in (q_t4 (List.mem_of_getElem? (i := 103) (by decide +kernel))) (by decide +kernel)), iniX11, rfl, Nat.le_of_ble_eq_true rfl⟩
theorem npX11_clearBreakdowns : q_np mX11_clearBreakdowns 1 := by unfold q_np; decide +kernel
def mL_count : q_M := (RL, yL_count, cL_count, 4, (some .int), [(0, 9, 12, 13)])
theorem okL_count : q_Mok mL_count := ⟨by decide +kernel, ⟨by decide +kernel, by decide +kernel⟩, (q_in (q_t4 (List.mem_of_getElem? (i := 106) (by decide +kernel))) (by decide +kernel)), iniL, rfl, Nat.le_of_ble_eq_true rfl⟩
theorem npL_count : q_np mL_count 3 := by unfold q_np; decide +kernel
def mX11_count : q_M := (RX11, yX11_count, cX11_count, 2, (some .int), [])
theorem okX11_count : q_Mok mX11_count := ⟨by decide +kernel, ⟨by decide +kernel, by decide +kernel⟩, (q_in (q_t4 (List.mem_of_getElem? (i := 110) (by decide +kernel))) (by decide +kernel)), iniX11, rfl, Nat.le_of_ble_eq_true rfl⟩
theorem npX11_count : q_np mX11_count 1 := by unfold q_np; decide +kernel
def mL_property : q_M := (RL, yL_property, cL_property, 5, (some .int), [(0, 10, 13, 21), (0, 10, 17, 13)])
theorem okL_property : q_Mok mL_property := ⟨by decide +kernel, ⟨by decide +kernel, by decide +kernel⟩, (q_in (q_t4 (List.mem_of_getElem? (i := 114) (by decide +kernel))) (by decide +kernel)), iniL, rfl, Nat.le_of_ble_eq_true rfl⟩
theorem npL_property : q_np mL_property 4 := by unfold q_np; decide +kernel
def mX11_property : q_M := (RX11, yX11_property, cX11_property, 3, (some .int), [])
theorem okX11_property : q_Mok mX11_property := ⟨by decide +kernel, ⟨by decide +kernel, by decide +kernel⟩, (q_in (q_t4 (List.mem_of_getElem? (i := 118) (by decide +kernel))) (by decide +kernel)), iniX11, rfl, Nat.le_of_ble_eq_true rfl⟩
theorem npX11_property : q_np mX11_property 2 := by unfold q_np; decide +kernel
def mX5_positionOf : q_M := (RX5, yX5_positionOf, cX5_positionOf, 4, (some .int), [])
theorem okX5_positionOf : q_Mok mX5_positionOf := ⟨by decide +kernel, ⟨by decide +kernel, by decide +kernel⟩, (q_in (q_t4 (List.mem_of_getElem? (i := 122) (by decide +kernel))) (by decide +kernel)), iniX5, rfl, Nat.le_of_ble_eq_true rfl⟩
theorem npX5_positionOf : q_np mX5_positionOf 2 := by unfold q_np; decide +kernel
def mL_order : q_M := (RL, yL_order, cL_order, 5, (some .int), [(0, 10, 13, 21), (0, 10, 17, 49)])
theorem okL_order : q_Mok mL_order := ⟨by decide +kernel, ⟨by decide +kernel, by decide +kernel⟩, (q_in (q_t4 (List.mem_of_getElem? (i := 126) (by decide +kernel))) (by decide +kernel)), iniL, rfl, Nat.le_of_ble_eq_true rfl⟩
theorem npL_order : q_np mL_order 4 := by unfold q_np; decide +kernel
def mX11_order : q_M := (RX11, yX11_order, cX11_order, 3, (some .int), [])
theorem okX11_order : q_Mok mX11_order := ⟨by decide +kernel, ⟨by decide +kernel, by decide +kernel⟩, (q_in (q_t4 (List.mem_of_getElem? (i := 131) (by decide +kernel))) (by decide +kernel)), iniX11, rfl, Nat.le_of_ble_eq_true rfl⟩
theorem npX11_order : q_np mX11_order 2 := by unfold q_np; decide +kernel
def mX5_contains : q_M := (RX5, yX5_contains, cX5_contains, 3, (some .boolean), [])
theorem okX5_contains : q_Mok mX5_contains := ⟨by decide +kernel, ⟨by decide +kernel, by decide +kernel⟩, (q_in (q_t4 (List.mem_of_getElem? (i := 135) (by decide +kernel))) (by decide +kernel)), iniX5, rfl, Nat.le_of_ble_eq_true rfl⟩
theorem npX5_contains : q_np mX5_contains 2 := by unfold q_np; decide +kernel
def mL_time : q_M := (RL, yL_time, cL_time, 5, (some .int), [(0, 10, 13, 21), (0, 10, 17, 13)])
theorem okL_time : q_Mok mL_time := ⟨by decide +kernel, ⟨by decide +kernel, by decide +kernel⟩, (q_in (q_t4 (List.mem_of_getElem? (i := 154) (by decide +kernel))) (by decide +kernel)), iniL, rfl, Nat.le_of_ble_eq_true rfl⟩
theorem npL_time : q_np mL_time 4 := by unfold q_np; decide +kernel
def mX11_time : q_M := (RX11, yX11_time, cX11_time, 3, (some .int), [])
theorem okX11_time : q_Mok mX11_time := ⟨by decide +kernel, ⟨by decide +kernel, by decide +kernel⟩, (q_in (q_t4 (List.mem_of_getElem? (i := 158) (by decide +kernel))) (by decide +kernel)), iniX11, rfl, Nat.le_of_ble_eq_true rfl⟩
theorem npX11_time : q_np mX11_time 2 := by unfold q_np; decide +kernel
def mL_slack : q_M := (RL, yL_slack, cL_slack, 4, (some .int), [(0, 9, 12, 21)])
theorem okL_slack : q_Mok mL_slack := ⟨by decide +kernel, ⟨by decide +kernel, by decide +kernel⟩, (q_in (q_t4 (List.mem_of_getElem? (i := 162) (by decide +kernel))) (by decide +kernel)), iniL, rfl, Nat.le_of_ble_eq_true rfl⟩
theorem npL_slack : q_np mL_slack 3 := by unfold q_np; decide +kernel
def mX11_slack : q_M := (RX11, yX11_slack, cX11_slack, 5, (some .int), [])
theorem okX11_slack : q_Mok mX11_slack := ⟨by decide +kernel, ⟨by decide +kernel, by decide +kernel⟩, (q_in (q_t4 (List.mem_of_getElem? (i := 166) (by decide +kernel))) (by decide +kernel)), iniX11, rfl, Nat.le_of_ble_eq_true rfl⟩
theorem npX11_slack : q_np mX11_slack 1 := by unfold q_np; decide +kernel
def mX10_computeHolding : q_M := (RX10, yX10_computeHolding, cX10_computeHolding, 4, none, [])
theorem okX10_computeHolding : q_Mok mX10_computeHolding := ⟨by decide +kernel, ⟨by decide +kernel, by decide +kernel⟩, (q_in (q_t4 (List.mem_of_getElem? (i := 170) (by decide +kernel))) (by decide +kernel)), iniX10, rfl, Nat.le_of_ble_eq_true rfl⟩
theorem npX10_computeHolding : q_np mX10_computeHolding 3 := by unfold q_np; decide +kernel
def mL_completion : q_M := (RL, yL_completion, cL_completion, 4, (some .int), [(0, 9, 12, 21)])
theorem okL_completion : q_Mok mL_completion := ⟨by decide +kernel, ⟨by decide +kernel, by decide +kernel⟩, (q_in (q_t4 (List.mem_of_getElem? (i := 174) (by decide +kernel))) (by decide +kernel)), iniL, rfl, Nat.le_of_ble_eq_true rfl⟩
theorem npL_completion : q_np mL_completion 3 := by unfold q_np; decide +kernel
def mX11_completion : q_M := (RX11, yX11_completion, cX11_completion, 2, (some .int), [])
theorem okX11_completion : q_Mok mX11_completion := ⟨by decide +kernel, ⟨by decide +kernel, by decide +kernel⟩, (q_in (q_t4 (List.mem_of_getElem? (i := 178) (by decide +kernel))) (by decide +kernel)), iniX11, rfl, Nat.le_of_ble_eq_true rfl⟩
theorem npX11_completion : q_np mX11_completion 1 := by unfold q_np; decide +kernel
def mX10_completionOf : q_M := (RX10, yX10_completionOf, cX10_completionOf, 4, (some .int), [])
theorem okX10_completionOf : q_Mok mX10_completionOf := ⟨by decide +kernel, ⟨by decide +kernel, by decide +kernel⟩, (q_in (q_t4 (List.mem_of_getElem? (i := 182) (by decide +kernel))) (by decide +kernel)), iniX10, rfl, Nat.le_of_ble_eq_true rfl⟩
theorem npX10_completionOf : q_np mX10_completionOf 2 := by unfold q_np; decide +kernel
def mL_objective : q_M := (RL, yL_objective, cL_objective, 4, (some .int), [(0, 9, 12, 13)])
theorem okL_objective : q_Mok mL_objective := ⟨by decide +kernel, ⟨by decide +kernel, by decide +kernel⟩, (q_in (q_t4 (List.mem_of_getElem? (i := 185) (by decide +kernel))) (by decide +kernel)), iniL, rfl, Nat.le_of_ble_eq_true rfl⟩
theorem npL_objective : q_np mL_objective 3 := by unfold q_np; decide +kernel
def mX11_objective : q_M := (RX11, yX11_objective, cX11_objective, 2, (some .int), [])
theorem okX11_objective : q_Mok mX11_objective := ⟨by decide +kernel, ⟨by decide +kernel, by decide +kernel⟩, (q_in (q_t4 (List.mem_of_getElem? (i := 189) (by decide +kernel))) (by decide +kernel)), iniX11, rfl, Nat.le_of_ble_eq_true rfl⟩
theorem npX11_objective : q_np mX11_objective 1 := by unfold q_np; decide +kernel
def mX11_sumOfCompletions : q_M := (RX11, yX11_sumOfCompletions, cX11_sumOfCompletions, 3, (some .int), [])
theorem okX11_sumOfCompletions : q_Mok mX11_sumOfCompletions := ⟨by decide +kernel, ⟨by decide +kernel, by decide +kernel⟩, (q_in (q_t4 (List.mem_of_getElem? (i := 193) (by decide +kernel))) (by decide +kernel)), iniX11, rfl, Nat.le_of_ble_eq_true rfl⟩
theorem npX11_sumOfCompletions : q_np mX11_sumOfCompletions 0 := by unfold q_np; decide +kernel
def mX11_weightedTardiness : q_M := (RX11, yX11_weightedTardiness, cX11_weightedTardiness, 3, (some .int), [])
theorem okX11_weightedTardiness : q_Mok mX11_weightedTardiness := ⟨by decide +kernel, ⟨by decide +kernel, by decide +kernel⟩, (q_in (q_t4 (List.mem_of_getElem? (i := 197) (by decide +kernel))) (by decide +kernel)), iniX11, rfl, Nat.le_of_ble_eq_true rfl⟩
theorem npX11_weightedTardiness : q_np mX11_weightedTardiness 0 := by unfold q_np; decide +kernel
def mX11_tardinessOf : q_M := (RX11, yX11_tardinessOf, cX11_tardinessOf, 2, (some .int), [])
theorem okX11_tardinessOf : q_Mok mX11_tardinessOf := ⟨by decide +kernel, ⟨by decide +kernel, by decide +kernel⟩, (q_in (q_t4 (List.mem_of_getElem? (i := 201) (by decide +kernel))) (by decide +kernel)), iniX11, rfl, Nat.le_of_ble_eq_true rfl⟩
theorem npX11_tardinessOf : q_np mX11_tardinessOf 1 := by unfold q_np; decide +kernel
def mX11_tardyJobs : q_M := (RX11, yX11_tardyJobs, cX11_tardyJobs, 3, (some .int), [])
theorem okX11_tardyJobs : q_Mok mX11_tardyJobs := ⟨by decide +kernel, ⟨by decide +kernel, by decide +kernel⟩, (q_in (q_t4 (List.mem_of_getElem? (i := 206) (by decide +kernel))) (by decide +kernel)), iniX11, rfl, Nat.le_of_ble_eq_true rfl⟩
theorem npX11_tardyJobs : q_np mX11_tardyJobs 0 := by unfold q_np; decide +kernel
def mX11_sumOfSetups : q_M := (RX11, yX11_sumOfSetups, cX11_sumOfSetups, 5, (some .int), [])
theorem okX11_sumOfSetups : q_Mok mX11_sumOfSetups := ⟨by decide +kernel, ⟨by decide +kernel, by decide +kernel⟩, (q_in (q_t4 (List.mem_of_getElem? (i := 210) (by decide +kernel))) (by decide +kernel)), iniX11, rfl, Nat.le_of_ble_eq_true rfl⟩
theorem npX11_sumOfSetups : q_np mX11_sumOfSetups 0 := by unfold q_np; decide +kernel
def mX11_sumOfWaits : q_M := (RX11, yX11_sumOfWaits, cX11_sumOfWaits, 3, (some .int), [])
theorem okX11_sumOfWaits : q_Mok mX11_sumOfWaits := ⟨by decide +kernel, ⟨by decide +kernel, by decide +kernel⟩, (q_in (q_t4 (List.mem_of_getElem? (i := 215) (by decide +kernel))) (by decide +kernel)), iniX11, rfl, Nat.le_of_ble_eq_true rfl⟩
theorem npX11_sumOfWaits : q_np mX11_sumOfWaits 0 := by unfold q_np; decide +kernel
def mL_utilization : q_M := (RL, yL_utilization, cL_utilization, 4, (some .int), [(0, 8, 11, 21)])
theorem okL_utilization : q_Mok mL_utilization := ⟨by decide +kernel, ⟨by decide +kernel, by decide +kernel⟩, (q_in (q_t4 (List.mem_of_getElem? (i := 219) (by decide +kernel))) (by decide +kernel)), iniL, rfl, Nat.le_of_ble_eq_true rfl⟩
theorem npL_utilization : q_np mL_utilization 3 := by unfold q_np; decide +kernel
def mX11_utilization : q_M := (RX11, yX11_utilization, cX11_utilization, 5, (some .double), [])
theorem okX11_utilization : q_Mok mX11_utilization := ⟨by decide +kernel, ⟨by decide +kernel, by decide +kernel⟩, (q_in (q_t4 (List.mem_of_getElem? (i := 223) (by decide +kernel))) (by decide +kernel)), iniX11, rfl, Nat.le_of_ble_eq_true rfl⟩
theorem npX11_utilization : q_np mX11_utilization 1 := by unfold q_np; decide +kernel
def mL_path : q_M := (RL, yL_path, cL_path, 4, (some .int), [(0, 9, 12, 49)])
theorem okL_path : q_Mok mL_path := ⟨by decide +kernel, ⟨by decide +kernel, by decide +kernel⟩, (q_in (q_t4 (List.mem_of_getElem? (i := 226) (by decide +kernel))) (by decide +kernel)), iniL, rfl, Nat.le_of_ble_eq_true rfl⟩
theorem npL_path : q_np mL_path 3 := by unfold q_np; decide +kernel
def mX11_path : q_M := (RX11, yX11_path, cX11_path, 2, (some .int), [])
theorem okX11_path : q_Mok mX11_path := ⟨by decide +kernel, ⟨by decide +kernel, by decide +kernel⟩, (q_in (q_t4 (List.mem_of_getElem? (i := 230) (by decide +kernel))) (by decide +kernel)), iniX11, rfl, Nat.le_of_ble_eq_true rfl⟩
theorem npX11_path : q_np mX11_path 1 := by unfold q_np; decide +kernel
def mL_blockLength : q_M := (RL, yL_blockLength, cL_blockLength, 4, (some .int), [(0, 9, 12, 49)])
theorem okL_blockLength : q_Mok mL_blockLength := ⟨by decide +kernel, ⟨by decide +kernel, by decide +kernel⟩, (q_in (q_t4 (List.mem_of_getElem? (i := 234) (by decide +kernel))) (by decide +kernel)), iniL, rfl, Nat.le_of_ble_eq_true rfl⟩
theorem npL_blockLength : q_np mL_blockLength 3 := by unfold q_np; decide +kernel
def mX11_blockLength : q_M := (RX11, yX11_blockLength, cX11_blockLength, 2, (some .int), [])
theorem okX11_blockLength : q_Mok mX11_blockLength := ⟨by decide +kernel, ⟨by decide +kernel, by decide +kernel⟩, (q_in (q_t4 (List.mem_of_getElem? (i := 238) (by decide +kernel))) (by decide +kernel)), iniX11, rfl, Nat.le_of_ble_eq_true rfl⟩
theorem npX11_blockLength : q_np mX11_blockLength 1 := by unfold q_np; decide +kernel
def mL_swap : q_M := (RL, yL_swap, cL_swap, 5, (some .int), [(0, 10, 13, 21), (0, 10, 17, 49), (0, 10, 21, 15)])
theorem okL_swap : q_Mok mL_swap := ⟨by decide +kernel, ⟨by decide +kernel, by decide +kernel⟩, (q_in (q_t5 (List.mem_of_getElem? (i := 2) (by decide +kernel))) (by decide +kernel)), iniL, rfl, Nat.le_of_ble_eq_true rfl⟩
theorem npL_swap : q_np mL_swap 4 := by unfold q_np; decide +kernel
def mX11_swap : q_M := (RX11, yX11_swap, cX11_swap, 3, (some .int), [])
theorem okX11_swap : q_Mok mX11_swap := ⟨by decide +kernel, ⟨by decide +kernel, by decide +kernel⟩, (q_in (q_t5 (List.mem_of_getElem? (i := 6) (by decide +kernel))) (by decide +kernel)), iniX11, rfl, Nat.le_of_ble_eq_true rfl⟩
theorem npX11_swap : q_np mX11_swap 2 := by unfold q_np; decide +kernel
def mX5_exchange : q_M := (RX5, yX5_exchange, cX5_exchange, 5, none, [])
theorem okX5_exchange : q_Mok mX5_exchange := ⟨by decide +kernel, ⟨by decide +kernel, by decide +kernel⟩, (q_in (q_t5 (List.mem_of_getElem? (i := 11) (by decide +kernel))) (by decide +kernel)), iniX5, rfl, Nat.le_of_ble_eq_true rfl⟩
theorem npX5_exchange : q_np mX5_exchange 2 := by unfold q_np; decide +kernel
def mX11_noteCycle : q_M := (RX11, yX11_noteCycle, cX11_noteCycle, 1, none, [])
theorem okX11_noteCycle : q_Mok mX11_noteCycle := ⟨by decide +kernel, ⟨by decide +kernel, by decide +kernel⟩, (q_in (q_t5 (List.mem_of_getElem? (i := 15) (by decide +kernel))) (by decide +kernel)), iniX11, rfl, Nat.le_of_ble_eq_true rfl⟩
theorem npX11_noteCycle : q_np mX11_noteCycle 0 := by unfold q_np; decide +kernel
def mX4_begin : q_M := (RX4, yX4_begin, cX4_begin, 2, none, [])
theorem okX4_begin : q_Mok mX4_begin := ⟨by decide +kernel, ⟨by decide +kernel, by decide +kernel⟩, (q_in (q_t5 (List.mem_of_getElem? (i := 19) (by decide +kernel))) (by decide +kernel)), iniX4, rfl, Nat.le_of_ble_eq_true rfl⟩
theorem npX4_begin : q_np mX4_begin 1 := by unfold q_np; decide +kernel
def mX10_lowestUndefined : q_M := (RX10, yX10_lowestUndefined, cX10_lowestUndefined, 3, (some .int), [])
theorem okX10_lowestUndefined : q_Mok mX10_lowestUndefined := ⟨by decide +kernel, ⟨by decide +kernel, by decide +kernel⟩, (q_in (q_t5 (List.mem_of_getElem? (i := 23) (by decide +kernel))) (by decide +kernel)), iniX10, rfl, Nat.le_of_ble_eq_true rfl⟩
theorem npX10_lowestUndefined : q_np mX10_lowestUndefined 1 := by unfold q_np; decide +kernel
def mX4_because : q_M := (RX4, yX4_because, cX4_because, 2, none, [])
theorem okX4_because : q_Mok mX4_because := ⟨by decide +kernel, ⟨by decide +kernel, by decide +kernel⟩, (q_in (q_t5 (List.mem_of_getElem? (i := 27) (by decide +kernel))) (by decide +kernel)), iniX4, rfl, Nat.le_of_ble_eq_true rfl⟩
theorem npX4_because : q_np mX4_because 1 := by unfold q_np; decide +kernel
def mL_move : q_M := (RL, yL_move, cL_move, 5, (some .int), [(0, 10, 13, 21), (0, 10, 17, 13), (0, 10, 21, 15)])
theorem okL_move : q_Mok mL_move := ⟨by decide +kernel, ⟨by decide +kernel, by decide +kernel⟩, (q_in (q_t5 (List.mem_of_getElem? (i := 31) (by decide +kernel))) (by decide +kernel)), iniL, rfl, Nat.le_of_ble_eq_true rfl⟩
theorem npL_move : q_np mL_move 4 := by unfold q_np; decide +kernel
def mX11_move : q_M := (RX11, yX11_move, cX11_move, 5, (some .int), [])
theorem okX11_move : q_Mok mX11_move := ⟨by decide +kernel, ⟨by decide +kernel, by decide +kernel⟩, (q_in (q_t5 (List.mem_of_getElem? (i := 35) (by decide +kernel))) (by decide +kernel)), iniX11, rfl, Nat.le_of_ble_eq_true rfl⟩
theorem npX11_move : q_np mX11_move 2 := by unfold q_np; decide +kernel
def mX5_shift : q_M := (RX5, yX5_shift, cX5_shift, 10, none, [])
theorem okX5_shift : q_Mok mX5_shift := ⟨by decide +kernel, ⟨by decide +kernel, by decide +kernel⟩, (q_in (q_t5 (List.mem_of_getElem? (i := 39) (by decide +kernel))) (by decide +kernel)), iniX5, rfl, Nat.le_of_ble_eq_true rfl⟩
theorem npX5_shift : q_np mX5_shift 3 := by unfold q_np; decide +kernel
def mL_dispatch : q_M := (RL, yL_dispatch, cL_dispatch, 4, (some .int), [(0, 9, 12, 13)])
theorem okL_dispatch : q_Mok mL_dispatch := ⟨by decide +kernel, ⟨by decide +kernel, by decide +kernel⟩, (q_in (q_t5 (List.mem_of_getElem? (i := 45) (by decide +kernel))) (by decide +kernel)), iniL, rfl, Nat.le_of_ble_eq_true rfl⟩
theorem npL_dispatch : q_np mL_dispatch 3 := by unfold q_np; decide +kernel
def mX11_dispatch : q_M := (RX11, yX11_dispatch, cX11_dispatch, 2, (some .int), [])
theorem okX11_dispatch : q_Mok mX11_dispatch := ⟨by decide +kernel, ⟨by decide +kernel, by decide +kernel⟩, (q_in (q_t5 (List.mem_of_getElem? (i := 49) (by decide +kernel))) (by decide +kernel)), iniX11, rfl, Nat.le_of_ble_eq_true rfl⟩
theorem npX11_dispatch : q_np mX11_dispatch 1 := by unfold q_np; decide +kernel
def mX11_requireRule : q_M := (RX11, yX11_requireRule, cX11_requireRule, 1, none, [])
theorem okX11_requireRule : q_Mok mX11_requireRule := ⟨by decide +kernel, ⟨by decide +kernel, by decide +kernel⟩, (q_in (q_t5 (List.mem_of_getElem? (i := 52) (by decide +kernel))) (by decide +kernel)), iniX11, rfl, Nat.le_of_ble_eq_true rfl⟩
theorem npX11_requireRule : q_np mX11_requireRule 1 := by unfold q_np; decide +kernel
def mX11_dispatchFrom : q_M := (RX11, yX11_dispatchFrom, cX11_dispatchFrom, 3, (some .int), [])
theorem okX11_dispatchFrom : q_Mok mX11_dispatchFrom := ⟨by decide +kernel, ⟨by decide +kernel, by decide +kernel⟩, (q_in (q_t5 (List.mem_of_getElem? (i := 57) (by decide +kernel))) (by decide +kernel)), iniX11, rfl, Nat.le_of_ble_eq_true rfl⟩
theorem npX11_dispatchFrom : q_np mX11_dispatchFrom 2 := by unfold q_np; decide +kernel
def mX3_build : q_M := (RX3, yX3_build, cX3_build, 7, none, [])
theorem okX3_build : q_Mok mX3_build := ⟨by decide +kernel, ⟨by decide +kernel, by decide +kernel⟩, (q_in (q_t5 (List.mem_of_getElem? (i := 61) (by decide +kernel))) (by decide +kernel)), iniX3, rfl, Nat.le_of_ble_eq_true rfl⟩
theorem npX3_build : q_np mX3_build 4 := by unfold q_np; decide +kernel
def mX3_keepBeginnings : q_M := (RX3, yX3_keepBeginnings, cX3_keepBeginnings, 6, (some .int), [])
theorem okX3_keepBeginnings : q_Mok mX3_keepBeginnings := ⟨by decide +kernel, ⟨by decide +kernel, by decide +kernel⟩, (q_in (q_t5 (List.mem_of_getElem? (i := 65) (by decide +kernel))) (by decide +kernel)), iniX3, rfl, Nat.le_of_ble_eq_true rfl⟩
theorem npX3_keepBeginnings : q_np mX3_keepBeginnings 3 := by unfold q_np; decide +kernel
def mX3_startsBefore : q_M := (RX3, yX3_startsBefore, cX3_startsBefore, 6, (some .int), [])
theorem okX3_startsBefore : q_Mok mX3_startsBefore := ⟨by decide +kernel, ⟨by decide +kernel, by decide +kernel⟩, (q_in (q_t5 (List.mem_of_getElem? (i := 68) (by decide +kernel))) (by decide +kernel)), iniX3, rfl, Nat.le_of_ble_eq_true rfl⟩
theorem npX3_startsBefore : q_np mX3_startsBefore 4 := by unfold q_np; decide +kernel
def mX3_choose : q_M := (RX3, yX3_choose, cX3_choose, 8, none, [])
theorem okX3_choose : q_Mok mX3_choose := ⟨by decide +kernel, ⟨by decide +kernel, by decide +kernel⟩, (q_in (q_t5 (List.mem_of_getElem? (i := 72) (by decide +kernel))) (by decide +kernel)), iniX3, rfl, Nat.le_of_ble_eq_true rfl⟩
theorem npX3_choose : q_np mX3_choose 3 := by unfold q_np; decide +kernel
def mX3_startOf : q_M := (RX3, yX3_startOf, cX3_startOf, 8, (some .int), [])
theorem okX3_startOf : q_Mok mX3_startOf := ⟨by decide +kernel, ⟨by decide +kernel, by decide +kernel⟩, (q_in (q_t5 (List.mem_of_getElem? (i := 76) (by decide +kernel))) (by decide +kernel)), iniX3, rfl, Nat.le_of_ble_eq_true rfl⟩
theorem npX3_startOf : q_np mX3_startOf 3 := by unfold q_np; decide +kernel
def mX3_rank : q_M := (RX3, yX3_rank, cX3_rank, 3, (some .int), [])
theorem okX3_rank : q_Mok mX3_rank := ⟨by decide +kernel, ⟨by decide +kernel, by decide +kernel⟩, (q_in (q_t5 (List.mem_of_getElem? (i := 82) (by decide +kernel))) (by decide +kernel)), iniX3, rfl, Nat.le_of_ble_eq_true rfl⟩
theorem npX3_rank : q_np mX3_rank 3 := by unfold q_np; decide +kernel
def mX3_workFrom : q_M := (RX3, yX3_workFrom, cX3_workFrom, 5, (some .int), [])
theorem okX3_workFrom : q_Mok mX3_workFrom := ⟨by decide +kernel, ⟨by decide +kernel, by decide +kernel⟩, (q_in (q_t5 (List.mem_of_getElem? (i := 85) (by decide +kernel))) (by decide +kernel)), iniX3, rfl, Nat.le_of_ble_eq_true rfl⟩
theorem npX3_workFrom : q_np mX3_workFrom 2 := by unfold q_np; decide +kernel
def mL_repair : q_M := (RL, yL_repair, cL_repair, 5, (some .int), [(0, 10, 13, 13)])
theorem okL_repair : q_Mok mL_repair := ⟨by decide +kernel, ⟨by decide +kernel, by decide +kernel⟩, (q_in (q_t5 (List.mem_of_getElem? (i := 89) (by decide +kernel))) (by decide +kernel)), iniL, rfl, Nat.le_of_ble_eq_true rfl⟩
theorem npL_repair : q_np mL_repair 4 := by unfold q_np; decide +kernel
def mX11_repair : q_M := (RX11, yX11_repair, cX11_repair, 3, (some .int), [])
theorem okX11_repair : q_Mok mX11_repair := ⟨by decide +kernel, ⟨by decide +kernel, by decide +kernel⟩, (q_in (q_t5 (List.mem_of_getElem? (i := 93) (by decide +kernel))) (by decide +kernel)), iniX11, rfl, Nat.le_of_ble_eq_true rfl⟩
theorem npX11_repair : q_np mX11_repair 2 := by unfold q_np; decide +kernel
def mL_best : q_M := (RL, yL_best, cL_best, 4, (some .int), [(0, 9, 12, 21)])
theorem okL_best : q_Mok mL_best := ⟨by decide +kernel, ⟨by decide +kernel, by decide +kernel⟩, (q_in (q_t5 (List.mem_of_getElem? (i := 97) (by decide +kernel))) (by decide +kernel)), iniL, rfl, Nat.le_of_ble_eq_true rfl⟩
theorem npL_best : q_np mL_best 3 := by unfold q_np; decide +kernel
def mX11_best : q_M := (RX11, yX11_best, cX11_best, 2, (some .int), [])
theorem okX11_best : q_Mok mX11_best := ⟨by decide +kernel, ⟨by decide +kernel, by decide +kernel⟩, (q_in (q_t5 (List.mem_of_getElem? (i := 101) (by decide +kernel))) (by decide +kernel)), iniX11, rfl, Nat.le_of_ble_eq_true rfl⟩
theorem npX11_best : q_np mX11_best 1 := by unfold q_np; decide +kernel
def mL_reoptimize : q_M := (RL, yL_reoptimize, cL_reoptimize, 4, (some .int), [(0, 9, 12, 21)])
theorem okL_reoptimize : q_Mok mL_reoptimize := ⟨by decide +kernel, ⟨by decide +kernel, by decide +kernel⟩, (q_in (q_t5 (List.mem_of_getElem? (i := 105) (by decide +kernel))) (by decide +kernel)), iniL, rfl, Nat.le_of_ble_eq_true rfl⟩
theorem npL_reoptimize : q_np mL_reoptimize 3 := by unfold q_np; decide +kernel
def mX11_reoptimize : q_M := (RX11, yX11_reoptimize, cX11_reoptimize, 2, (some .int), [])
theorem okX11_reoptimize : q_Mok mX11_reoptimize := ⟨by decide +kernel, ⟨by decide +kernel, by decide +kernel⟩, (q_in (q_t5 (List.mem_of_getElem? (i := 109) (by decide +kernel))) (by decide +kernel)), iniX11, rfl, Nat.le_of_ble_eq_true rfl⟩
theorem npX11_reoptimize : q_np mX11_reoptimize 1 := by unfold q_np; decide +kernel
def mL_bottleneck : q_M := (RL, yL_bottleneck, cL_bottleneck, 4, (some .int), [(0, 9, 12, 49)])
theorem okL_bottleneck : q_Mok mL_bottleneck := ⟨by decide +kernel, ⟨by decide +kernel, by decide +kernel⟩, (q_in (q_t5 (List.mem_of_getElem? (i := 113) (by decide +kernel))) (by decide +kernel)), iniL, rfl, Nat.le_of_ble_eq_true rfl⟩
theorem npL_bottleneck : q_np mL_bottleneck 3 := by unfold q_np; decide +kernel
def mX11_bottleneck : q_M := (RX11, yX11_bottleneck, cX11_bottleneck, 2, (some .int), [])
theorem okX11_bottleneck : q_Mok mX11_bottleneck := ⟨by decide +kernel, ⟨by decide +kernel, by decide +kernel⟩, (q_in (q_t5 (List.mem_of_getElem? (i := 117) (by decide +kernel))) (by decide +kernel)), iniX11, rfl, Nat.le_of_ble_eq_true rfl⟩
theorem npX11_bottleneck : q_np mX11_bottleneck 1 := by unfold q_np; decide +kernel
def mL_tabu : q_M := (RL, yL_tabu, cL_tabu, 5, (some .int), [(0, 10, 13, 13)])
theorem okL_tabu : q_Mok mL_tabu := ⟨by decide +kernel, ⟨by decide +kernel, by decide +kernel⟩, (q_in (q_t5 (List.mem_of_getElem? (i := 121) (by decide +kernel))) (by decide +kernel)), iniL, rfl, Nat.le_of_ble_eq_true rfl⟩
theorem npL_tabu : q_np mL_tabu 4 := by unfold q_np; decide +kernel
def mX11_tabu : q_M := (RX11, yX11_tabu, cX11_tabu, 3, (some .int), [])
theorem okX11_tabu : q_Mok mX11_tabu := ⟨by decide +kernel, ⟨by decide +kernel, by decide +kernel⟩, (q_in (q_t5 (List.mem_of_getElem? (i := 125) (by decide +kernel))) (by decide +kernel)), iniX11, rfl, Nat.le_of_ble_eq_true rfl⟩
theorem npX11_tabu : q_np mX11_tabu 2 := by unfold q_np; decide +kernel
def mX8_search : q_M := (RX8, yX8_search, cX8_search, 5, (some .int), [])
theorem okX8_search : q_Mok mX8_search := ⟨by decide +kernel, ⟨by decide +kernel, by decide +kernel⟩, (q_in (q_t5 (List.mem_of_getElem? (i := 130) (by decide +kernel))) (by decide +kernel)), iniX8, rfl, Nat.le_of_ble_eq_true rfl⟩
theorem npX8_search : q_np mX8_search 3 := by unfold q_np; decide +kernel
def mX8_forgetSwaps : q_M := (RX8, yX8_forgetSwaps, cX8_forgetSwaps, 3, none, [])
theorem okX8_forgetSwaps : q_Mok mX8_forgetSwaps := ⟨by decide +kernel, ⟨by decide +kernel, by decide +kernel⟩, (q_in (q_t5 (List.mem_of_getElem? (i := 134) (by decide +kernel))) (by decide +kernel)), iniX8, rfl, Nat.le_of_ble_eq_true rfl⟩
theorem npX8_forgetSwaps : q_np mX8_forgetSwaps 0 := by unfold q_np; decide +kernel
def mX8_choose : q_M := (RX8, yX8_choose, cX8_choose, 5, none, [])
theorem okX8_choose : q_Mok mX8_choose := ⟨by decide +kernel, ⟨by decide +kernel, by decide +kernel⟩, (q_in (q_t5 (List.mem_of_getElem? (i := 141) (by decide +kernel))) (by decide +kernel)), iniX8, rfl, Nat.le_of_ble_eq_true rfl⟩
theorem npX8_choose : q_np mX8_choose 2 := by unfold q_np; decide +kernel
def mX8_consider : q_M := (RX8, yX8_consider, cX8_consider, 10, none, [])
theorem okX8_consider : q_Mok mX8_consider := ⟨by decide +kernel, ⟨by decide +kernel, by decide +kernel⟩, (q_in (q_t5 (List.mem_of_getElem? (i := 145) (by decide +kernel))) (by decide +kernel)), iniX8, rfl, Nat.le_of_ble_eq_true rfl⟩
theorem npX8_consider : q_np mX8_consider 4 := by unfold q_np; decide +kernel
def mX2_follows : q_M := (RX2, yX2_follows, cX2_follows, 3, (some .boolean), [])
theorem okX2_follows : q_Mok mX2_follows := ⟨by decide +kernel, ⟨by decide +kernel, by decide +kernel⟩, (q_in (q_t5 (List.mem_of_getElem? (i := 149) (by decide +kernel))) (by decide +kernel)), iniX2, rfl, Nat.le_of_ble_eq_true rfl⟩
theorem npX2_follows : q_np mX2_follows 2 := by unfold q_np; decide +kernel
def mX8_makeChosen : q_M := (RX8, yX8_makeChosen, cX8_makeChosen, 4, none, [])
theorem okX8_makeChosen : q_Mok mX8_makeChosen := ⟨by decide +kernel, ⟨by decide +kernel, by decide +kernel⟩, (q_in (q_t5 (List.mem_of_getElem? (i := 154) (by decide +kernel))) (by decide +kernel)), iniX8, rfl, Nat.le_of_ble_eq_true rfl⟩
theorem npX8_makeChosen : q_np mX8_makeChosen 2 := by unfold q_np; decide +kernel
def mL_bound : q_M := (RL, yL_bound, cL_bound, 4, (some .int), [(0, 9, 12, 21)])
theorem okL_bound : q_Mok mL_bound := ⟨by decide +kernel, ⟨by decide +kernel, by decide +kernel⟩, (q_in (q_t5 (List.mem_of_getElem? (i := 157) (by decide +kernel))) (by decide +kernel)), iniL, rfl, Nat.le_of_ble_eq_true rfl⟩
theorem npL_bound : q_np mL_bound 3 := by unfold q_np; decide +kernel
def mX11_bound : q_M := (RX11, yX11_bound, cX11_bound, 2, (some .int), [])
theorem okX11_bound : q_Mok mX11_bound := ⟨by decide +kernel, ⟨by decide +kernel, by decide +kernel⟩, (q_in (q_t5 (List.mem_of_getElem? (i := 161) (by decide +kernel))) (by decide +kernel)), iniX11, rfl, Nat.le_of_ble_eq_true rfl⟩
theorem npX11_bound : q_np mX11_bound 1 := by unfold q_np; decide +kernel
def mL_append : q_M := (RL, yL_append, cL_append, 3, (some .int), [(0, 5, 8, 15)])
theorem okL_append : q_Mok mL_append := ⟨by decide +kernel, ⟨by decide +kernel, by decide +kernel⟩, (q_in (q_t5 (List.mem_of_getElem? (i := 165) (by decide +kernel))) (by decide +kernel)), iniL, rfl, Nat.le_of_ble_eq_true rfl⟩
theorem npL_append : q_np mL_append 2 := by unfold q_np; decide +kernel
def mX11_append : q_M := (RX11, yX11_append, cX11_append, 2, none, [])
theorem okX11_append : q_Mok mX11_append := ⟨by decide +kernel, ⟨by decide +kernel, by decide +kernel⟩, (q_in (q_t5 (List.mem_of_getElem? (i := 169) (by decide +kernel))) (by decide +kernel)), iniX11, rfl, Nat.le_of_ble_eq_true rfl⟩
theorem npX11_append : q_np mX11_append 1 := by unfold q_np; decide +kernel
def mX9_add : q_M := (RX9, yX9_add, cX9_add, 2, none, [])
theorem okX9_add : q_Mok mX9_add := ⟨by decide +kernel, ⟨by decide +kernel, by decide +kernel⟩, (q_in (q_t5 (List.mem_of_getElem? (i := 174) (by decide +kernel))) (by decide +kernel)), iniX9, rfl, Nat.le_of_ble_eq_true rfl⟩
theorem npX9_add : q_np mX9_add 1 := by unfold q_np; decide +kernel
def mL_read : q_M := (RL, yL_read, cL_read, 3, (some .int), [(0, 8, 11, 13), (0, 8, 14, 15)])
theorem okL_read : q_Mok mL_read := ⟨by decide +kernel, ⟨by decide +kernel, by decide +kernel⟩, (q_in (q_t5 (List.mem_of_getElem? (i := 177) (by decide +kernel))) (by decide +kernel)), iniL, rfl, Nat.le_of_ble_eq_true rfl⟩
theorem npL_read : q_np mL_read 2 := by unfold q_np; decide +kernel
def mX11_read : q_M := (RX11, yX11_read, cX11_read, 3, (some .int), [])
theorem okX11_read : q_Mok mX11_read := ⟨by decide +kernel, ⟨by decide +kernel, by decide +kernel⟩, (q_in (q_t5 (List.mem_of_getElem? (i := 181) (by decide +kernel))) (by decide +kernel)), iniX11, rfl, Nat.le_of_ble_eq_true rfl⟩
theorem npX11_read : q_np mX11_read 0 := by unfold q_np; decide +kernel
def mX9_findFault : q_M := (RX9, yX9_findFault, cX9_findFault, 4, (some .int), [])
theorem okX9_findFault : q_Mok mX9_findFault := ⟨by decide +kernel, ⟨by decide +kernel, by decide +kernel⟩, (q_in (q_t5 (List.mem_of_getElem? (i := 185) (by decide +kernel))) (by decide +kernel)), iniX9, rfl, Nat.le_of_ble_eq_true rfl⟩
theorem npX9_findFault : q_np mX9_findFault 0 := by unfold q_np; decide +kernel
def mX9_beginNumber : q_M := (RX9, yX9_beginNumber, cX9_beginNumber, 2, none, [])
theorem okX9_beginNumber : q_Mok mX9_beginNumber := ⟨by decide +kernel, ⟨by decide +kernel, by decide +kernel⟩, (q_in (q_t5 (List.mem_of_getElem? (i := 189) (by decide +kernel))) (by decide +kernel)), iniX9, rfl, Nat.le_of_ble_eq_true rfl⟩
theorem npX9_beginNumber : q_np mX9_beginNumber 1 := by unfold q_np; decide +kernel
def mX9_takesDigit : q_M := (RX9, yX9_takesDigit, cX9_takesDigit, 1, (some .boolean), [])
theorem okX9_takesDigit : q_Mok mX9_takesDigit := ⟨by decide +kernel, ⟨by decide +kernel, by decide +kernel⟩, (q_in (q_t5 (List.mem_of_getElem? (i := 193) (by decide +kernel))) (by decide +kernel)), iniX9, rfl, Nat.le_of_ble_eq_true rfl⟩
theorem npX9_takesDigit : q_np mX9_takesDigit 0 := by unfold q_np; decide +kernel
def mX9_kindBehind : q_M := (RX9, yX9_kindBehind, cX9_kindBehind, 2, (some .int), [])
theorem okX9_kindBehind : q_Mok mX9_kindBehind := ⟨by decide +kernel, ⟨by decide +kernel, by decide +kernel⟩, (q_in (q_t5 (List.mem_of_getElem? (i := 197) (by decide +kernel))) (by decide +kernel)), iniX9, rfl, Nat.le_of_ble_eq_true rfl⟩
theorem npX9_kindBehind : q_np mX9_kindBehind 1 := by unfold q_np; decide +kernel
def mX9_endNumber : q_M := (RX9, yX9_endNumber, cX9_endNumber, 1, none, [])
theorem okX9_endNumber : q_Mok mX9_endNumber := ⟨by decide +kernel, ⟨by decide +kernel, by decide +kernel⟩, (q_in (q_t5 (List.mem_of_getElem? (i := 201) (by decide +kernel))) (by decide +kernel)), iniX9, rfl, Nat.le_of_ble_eq_true rfl⟩
theorem npX9_endNumber : q_np mX9_endNumber 0 := by unfold q_np; decide +kernel
def mX9_createJobs : q_M := (RX9, yX9_createJobs, cX9_createJobs, 7, (some .boolean), [])
theorem okX9_createJobs : q_Mok mX9_createJobs := ⟨by decide +kernel, ⟨by decide +kernel, by decide +kernel⟩, (q_in (q_t5 (List.mem_of_getElem? (i := 206) (by decide +kernel))) (by decide +kernel)), iniX9, rfl, Nat.le_of_ble_eq_true rfl⟩
theorem npX9_createJobs : q_np mX9_createJobs 2 := by unfold q_np; decide +kernel
def mX9_reasonAgainstJob : q_M := (RX9, yX9_reasonAgainstJob, cX9_reasonAgainstJob, 3, (some .int), [])
theorem okX9_reasonAgainstJob : q_Mok mX9_reasonAgainstJob := ⟨by decide +kernel, ⟨by decide +kernel, by decide +kernel⟩, (q_in (q_t5 (List.mem_of_getElem? (i := 210) (by decide +kernel))) (by decide +kernel)), iniX9, rfl, Nat.le_of_ble_eq_true rfl⟩
theorem npX9_reasonAgainstJob : q_np mX9_reasonAgainstJob 2 := by unfold q_np; decide +kernel
def mX9_refuse : q_M := (RX9, yX9_refuse, cX9_refuse, 3, none, [])
theorem okX9_refuse : q_Mok mX9_refuse := ⟨by decide +kernel, ⟨by decide +kernel, by decide +kernel⟩, (q_in (q_t5 (List.mem_of_getElem? (i := 214) (by decide +kernel))) (by decide +kernel)), iniX9, rfl, Nat.le_of_ble_eq_true rfl⟩
theorem npX9_refuse : q_np mX9_refuse 3 := by unfold q_np; decide +kernel
def mX9_operationFits : q_M := (RX9, yX9_operationFits, cX9_operationFits, 3, (some .boolean), [])
theorem okX9_operationFits : q_Mok mX9_operationFits := ⟨by decide +kernel, ⟨by decide +kernel, by decide +kernel⟩, (q_in (q_t5 (List.mem_of_getElem? (i := 221) (by decide +kernel))) (by decide +kernel)), iniX9, rfl, Nat.le_of_ble_eq_true rfl⟩
theorem npX9_operationFits : q_np mX9_operationFits 2 := by unfold q_np; decide +kernel
def mL_failure : q_M := (RL, yL_failure, cL_failure, 4, (some .int), [(0, 9, 12, 13)])
theorem okL_failure : q_Mok mL_failure := ⟨by decide +kernel, ⟨by decide +kernel, by decide +kernel⟩, (q_in (q_t5 (List.mem_of_getElem? (i := 230) (by decide +kernel))) (by decide +kernel)), iniL, rfl, Nat.le_of_ble_eq_true rfl⟩
theorem npL_failure : q_np mL_failure 3 := by unfold q_np; decide +kernel
def mX11_failure : q_M := (RX11, yX11_failure, cX11_failure, 2, (some .int), [])
theorem okX11_failure : q_Mok mX11_failure := ⟨by decide +kernel, ⟨by decide +kernel, by decide +kernel⟩, (q_in (q_t5 (List.mem_of_getElem? (i := 234) (by decide +kernel))) (by decide +kernel)), iniX11, rfl, Nat.le_of_ble_eq_true rfl⟩
theorem npX11_failure : q_np mX11_failure 1 := by unfold q_np; decide +kernel
def mX4_codeAt : q_M := (RX4, yX4_codeAt, cX4_codeAt, 2, (some .int), [])
theorem okX4_codeAt : q_Mok mX4_codeAt := ⟨by decide +kernel, ⟨by decide +kernel, by decide +kernel⟩, (q_in (q_t5 (List.mem_of_getElem? (i := 239) (by decide +kernel))) (by decide +kernel)), iniX4, rfl, Nat.le_of_ble_eq_true rfl⟩
theorem npX4_codeAt : q_np mX4_codeAt 1 := by unfold q_np; decide +kernel
def mL_restore : q_M := (RL, yL_restore, cL_restore, 2, (some .int), [(0, 4, 7, 15)])
theorem okL_restore : q_Mok mL_restore := ⟨by decide +kernel, ⟨by decide +kernel, by decide +kernel⟩, (q_in (q_t6 (List.mem_of_getElem? (i := 2) (by decide +kernel))) (by decide +kernel)), iniL, rfl, Nat.le_of_ble_eq_true rfl⟩
theorem npL_restore : q_np mL_restore 1 := by unfold q_np; decide +kernel
def mX11_restore : q_M := (RX11, yX11_restore, cX11_restore, 1, none, [])
theorem okX11_restore : q_Mok mX11_restore := ⟨by decide +kernel, ⟨by decide +kernel, by decide +kernel⟩, (q_in (q_t6 (List.mem_of_getElem? (i := 6) (by decide +kernel))) (by decide +kernel)), iniX11, rfl, Nat.le_of_ble_eq_true rfl⟩
theorem npX11_restore : q_np mX11_restore 0 := by unfold q_np; decide +kernel
def mX12_init : q_M := (RX12, yX12_init, cX12_init, 1, none, [])
theorem okX12_init : q_Mok mX12_init := ⟨by decide +kernel, ⟨by decide +kernel, by decide +kernel⟩, (q_in (q_t6 (List.mem_of_getElem? (i := 12) (by decide +kernel))) (by decide +kernel)), iniX12, rfl, Nat.le_of_ble_eq_true rfl⟩
theorem npX12_init : q_np mX12_init 0 := by unfold q_np; decide +kernel
def mX12_thrown : q_M := (RX12, yX12_thrown, cX12_thrown, 1, (some .int), [])
theorem okX12_thrown : q_Mok mX12_thrown := ⟨by decide +kernel, ⟨by decide +kernel, by decide +kernel⟩, (q_in (q_t6 (List.mem_of_getElem? (i := 129) (by decide +kernel))) (by decide +kernel)), iniX12, rfl, Nat.le_of_ble_eq_true rfl⟩
theorem npX12_thrown : q_np mX12_thrown 0 := by unfold q_np; decide +kernel
def mX12_addJob : q_M := (RX12, yX12_addJob, cX12_addJob, 4, (some .int), [])
theorem okX12_addJob : q_Mok mX12_addJob := ⟨by decide +kernel, ⟨by decide +kernel, by decide +kernel⟩, (q_in (q_t6 (List.mem_of_getElem? (i := 133) (by decide +kernel))) (by decide +kernel)), iniX12, rfl, Nat.le_of_ble_eq_true rfl⟩
theorem npX12_addJob : q_np mX12_addJob 3 := by unfold q_np; decide +kernel
def mX12_areJobProperties : q_M := (RX12, yX12_areJobProperties, cX12_areJobProperties, 3, (some .boolean), [])
theorem okX12_areJobProperties : q_Mok mX12_areJobProperties := ⟨by decide +kernel, ⟨by decide +kernel, by decide +kernel⟩, (q_in (q_t6 (List.mem_of_getElem? (i := 136) (by decide +kernel))) (by decide +kernel)), iniX12, rfl, Nat.le_of_ble_eq_true rfl⟩
theorem npX12_areJobProperties : q_np mX12_areJobProperties 3 := by unfold q_np; decide +kernel
def mX12_isJobProperty : q_M := (RX12, yX12_isJobProperty, cX12_isJobProperty, 2, (some .boolean), [])
theorem okX12_isJobProperty : q_Mok mX12_isJobProperty := ⟨by decide +kernel, ⟨by decide +kernel, by decide +kernel⟩, (q_in (q_t6 (List.mem_of_getElem? (i := 139) (by decide +kernel))) (by decide +kernel)), iniX12, rfl, Nat.le_of_ble_eq_true rfl⟩
theorem npX12_isJobProperty : q_np mX12_isJobProperty 2 := by unfold q_np; decide +kernel
def mX12_in : q_M := (RX12, yX12_in, cX12_in, 6, (some .boolean), [])
theorem okX12_in : q_Mok mX12_in := ⟨by decide +kernel, ⟨by decide +kernel, by decide +kernel⟩, (q_in (q_t6 (List.mem_of_getElem? (i := 143) (by decide +kernel))) (by decide +kernel)), iniX12, rfl, Nat.le_of_ble_eq_true rfl⟩
theorem npX12_in : q_np mX12_in 3 := by unfold q_np; decide +kernel
def mX12_createJob : q_M := (RX12, yX12_createJob, cX12_createJob, 5, (some .int), [])
theorem okX12_createJob : q_Mok mX12_createJob := ⟨by decide +kernel, ⟨by decide +kernel, by decide +kernel⟩, (q_in (q_t6 (List.mem_of_getElem? (i := 149) (by decide +kernel))) (by decide +kernel)), iniX12, rfl, Nat.le_of_ble_eq_true rfl⟩
theorem npX12_createJob : q_np mX12_createJob 3 := by unfold q_np; decide +kernel
def mX12_addOperation : q_M := (RX12, yX12_addOperation, cX12_addOperation, 5, (some .int), [])
theorem okX12_addOperation : q_Mok mX12_addOperation := ⟨by decide +kernel, ⟨by decide +kernel, by decide +kernel⟩, (q_in (q_t6 (List.mem_of_getElem? (i := 153) (by decide +kernel))) (by decide +kernel)), iniX12, rfl, Nat.le_of_ble_eq_true rfl⟩
theorem npX12_addOperation : q_np mX12_addOperation 4 := by unfold q_np; decide +kernel
def mX12_isJob : q_M := (RX12, yX12_isJob, cX12_isJob, 2, (some .boolean), [])
theorem okX12_isJob : q_Mok mX12_isJob := ⟨by decide +kernel, ⟨by decide +kernel, by decide +kernel⟩, (q_in (q_t6 (List.mem_of_getElem? (i := 157) (by decide +kernel))) (by decide +kernel)), iniX12, rfl, Nat.le_of_ble_eq_true rfl⟩
theorem npX12_isJob : q_np mX12_isJob 1 := by unfold q_np; decide +kernel
def mX12_isMachine : q_M := (RX12, yX12_isMachine, cX12_isMachine, 1, (some .boolean), [])
theorem okX12_isMachine : q_Mok mX12_isMachine := ⟨by decide +kernel, ⟨by decide +kernel, by decide +kernel⟩, (q_in (q_t6 (List.mem_of_getElem? (i := 160) (by decide +kernel))) (by decide +kernel)), iniX12, rfl, Nat.le_of_ble_eq_true rfl⟩
theorem npX12_isMachine : q_np mX12_isMachine 1 := by unfold q_np; decide +kernel
def mX12_areProperties : q_M := (RX12, yX12_areProperties, cX12_areProperties, 2, (some .boolean), [])
theorem okX12_areProperties : q_Mok mX12_areProperties := ⟨by decide +kernel, ⟨by decide +kernel, by decide +kernel⟩, (q_in (q_t6 (List.mem_of_getElem? (i := 164) (by decide +kernel))) (by decide +kernel)), iniX12, rfl, Nat.le_of_ble_eq_true rfl⟩
theorem npX12_areProperties : q_np mX12_areProperties 2 := by unfold q_np; decide +kernel
def mX12_hasMachine : q_M := (RX12, yX12_hasMachine, cX12_hasMachine, 5, (some .boolean), [])
theorem okX12_hasMachine : q_Mok mX12_hasMachine := ⟨by decide +kernel, ⟨by decide +kernel, by decide +kernel⟩, (q_in (q_t6 (List.mem_of_getElem? (i := 170) (by decide +kernel))) (by decide +kernel)), iniX12, rfl, Nat.le_of_ble_eq_true rfl⟩
theorem npX12_hasMachine : q_np mX12_hasMachine 2 := by unfold q_np; decide +kernel
def mX12_sequence : q_M := (RX12, yX12_sequence, cX12_sequence, 3, (some .int), [])
theorem okX12_sequence : q_Mok mX12_sequence := ⟨by decide +kernel, ⟨by decide +kernel, by decide +kernel⟩, (q_in (q_t6 (List.mem_of_getElem? (i := 174) (by decide +kernel))) (by decide +kernel)), iniX12, rfl, Nat.le_of_ble_eq_true rfl⟩
theorem npX12_sequence : q_np mX12_sequence 2 := by unfold q_np; decide +kernel
def mX12_createOperation : q_M := (RX12, yX12_createOperation, cX12_createOperation, 6, (some .int), [])
theorem okX12_createOperation : q_Mok mX12_createOperation := ⟨by decide +kernel, ⟨by decide +kernel, by decide +kernel⟩, (q_in (q_t6 (List.mem_of_getElem? (i := 178) (by decide +kernel))) (by decide +kernel)), iniX12, rfl, Nat.le_of_ble_eq_true rfl⟩
theorem npX12_createOperation : q_np mX12_createOperation 4 := by unfold q_np; decide +kernel
def mX12_setOrdered : q_M := (RX12, yX12_setOrdered, cX12_setOrdered, 4, none, [])
theorem okX12_setOrdered : q_Mok mX12_setOrdered := ⟨by decide +kernel, ⟨by decide +kernel, by decide +kernel⟩, (q_in (q_t6 (List.mem_of_getElem? (i := 182) (by decide +kernel))) (by decide +kernel)), iniX12, rfl, Nat.le_of_ble_eq_true rfl⟩
theorem npX12_setOrdered : q_np mX12_setOrdered 3 := by unfold q_np; decide +kernel
def mX12_setJob : q_M := (RX12, yX12_setJob, cX12_setJob, 6, (some .int), [])
theorem okX12_setJob : q_Mok mX12_setJob := ⟨by decide +kernel, ⟨by decide +kernel, by decide +kernel⟩, (q_in (q_t6 (List.mem_of_getElem? (i := 186) (by decide +kernel))) (by decide +kernel)), iniX12, rfl, Nat.le_of_ble_eq_true rfl⟩
theorem npX12_setJob : q_np mX12_setJob 3 := by unfold q_np; decide +kernel
def mX12_setDuration : q_M := (RX12, yX12_setDuration, cX12_setDuration, 4, (some .int), [])
theorem okX12_setDuration : q_Mok mX12_setDuration := ⟨by decide +kernel, ⟨by decide +kernel, by decide +kernel⟩, (q_in (q_t6 (List.mem_of_getElem? (i := 190) (by decide +kernel))) (by decide +kernel)), iniX12, rfl, Nat.le_of_ble_eq_true rfl⟩
theorem npX12_setDuration : q_np mX12_setDuration 2 := by unfold q_np; decide +kernel
def mX12_isOperation : q_M := (RX12, yX12_isOperation, cX12_isOperation, 2, (some .boolean), [])
theorem okX12_isOperation : q_Mok mX12_isOperation := ⟨by decide +kernel, ⟨by decide +kernel, by decide +kernel⟩, (q_in (q_t6 (List.mem_of_getElem? (i := 194) (by decide +kernel))) (by decide +kernel)), iniX12, rfl, Nat.le_of_ble_eq_true rfl⟩
theorem npX12_isOperation : q_np mX12_isOperation 1 := by unfold q_np; decide +kernel
def mX12_setSetup : q_M := (RX12, yX12_setSetup, cX12_setSetup, 6, (some .int), [])
theorem okX12_setSetup : q_Mok mX12_setSetup := ⟨by decide +kernel, ⟨by decide +kernel, by decide +kernel⟩, (q_in (q_t6 (List.mem_of_getElem? (i := 198) (by decide +kernel))) (by decide +kernel)), iniX12, rfl, Nat.le_of_ble_eq_true rfl⟩
theorem npX12_setSetup : q_np mX12_setSetup 3 := by unfold q_np; decide +kernel
def mX12_addBreakdown : q_M := (RX12, yX12_addBreakdown, cX12_addBreakdown, 5, (some .int), [])
theorem okX12_addBreakdown : q_Mok mX12_addBreakdown := ⟨by decide +kernel, ⟨by decide +kernel, by decide +kernel⟩, (q_in (q_t6 (List.mem_of_getElem? (i := 202) (by decide +kernel))) (by decide +kernel)), iniX12, rfl, Nat.le_of_ble_eq_true rfl⟩
theorem npX12_addBreakdown : q_np mX12_addBreakdown 3 := by unfold q_np; decide +kernel
def mX12_clearBreakdowns : q_M := (RX12, yX12_clearBreakdowns, cX12_clearBreakdowns, 3, (some .int), [])
theorem okX12_clearBreakdowns : q_Mok mX12_clearBreakdowns := ⟨by decide +kernel, ⟨by decide +kernel, by decide +kernel⟩, (q_in (q_t6 (List.mem_of_getElem? (i := 208) (by decide +kernel))) (by decide +kernel)), iniX12, rfl, Nat.le_of_ble_eq_true rfl⟩
theorem npX12_clearBreakdowns : q_np mX12_clearBreakdowns 1 := by unfold q_np; decide +kernel
def mX12_count : q_M := (RX12, yX12_count, cX12_count, 2, (some .int), [])
theorem okX12_count : q_Mok mX12_count := ⟨by decide +kernel, ⟨by decide +kernel, by decide +kernel⟩, (q_in (q_t6 (List.mem_of_getElem? (i := 212) (by decide +kernel))) (by decide +kernel)), iniX12, rfl, Nat.le_of_ble_eq_true rfl⟩
theorem npX12_count : q_np mX12_count 1 := by unfold q_np; decide +kernel
def mX12_property : q_M := (RX12, yX12_property, cX12_property, 3, (some .int), [])
theorem okX12_property : q_Mok mX12_property := ⟨by decide +kernel, ⟨by decide +kernel, by decide +kernel⟩, (q_in (q_t6 (List.mem_of_getElem? (i := 216) (by decide +kernel))) (by decide +kernel)), iniX12, rfl, Nat.le_of_ble_eq_true rfl⟩
theorem npX12_property : q_np mX12_property 2 := by unfold q_np; decide +kernel
def mX12_positionOf : q_M := (RX12, yX12_positionOf, cX12_positionOf, 4, (some .int), [])
theorem okX12_positionOf : q_Mok mX12_positionOf := ⟨by decide +kernel, ⟨by decide +kernel, by decide +kernel⟩, (q_in (q_t6 (List.mem_of_getElem? (i := 221) (by decide +kernel))) (by decide +kernel)), iniX12, rfl, Nat.le_of_ble_eq_true rfl⟩
theorem npX12_positionOf : q_np mX12_positionOf 1 := by unfold q_np; decide +kernel
def mX12_ordered : q_M := (RX12, yX12_ordered, cX12_ordered, 3, (some .int), [])
theorem okX12_ordered : q_Mok mX12_ordered := ⟨by decide +kernel, ⟨by decide +kernel, by decide +kernel⟩, (q_in (q_t6 (List.mem_of_getElem? (i := 225) (by decide +kernel))) (by decide +kernel)), iniX12, rfl, Nat.le_of_ble_eq_true rfl⟩
theorem npX12_ordered : q_np mX12_ordered 2 := by unfold q_np; decide +kernel
def mX12_order : q_M := (RX12, yX12_order, cX12_order, 3, (some .int), [])
theorem okX12_order : q_Mok mX12_order := ⟨by decide +kernel, ⟨by decide +kernel, by decide +kernel⟩, (q_in (q_t6 (List.mem_of_getElem? (i := 229) (by decide +kernel))) (by decide +kernel)), iniX12, rfl, Nat.le_of_ble_eq_true rfl⟩
theorem npX12_order : q_np mX12_order 2 := by unfold q_np; decide +kernel
def mX12_time : q_M := (RX12, yX12_time, cX12_time, 4, (some .int), [])
theorem okX12_time : q_Mok mX12_time := ⟨by decide +kernel, ⟨by decide +kernel, by decide +kernel⟩, (q_in (q_t6 (List.mem_of_getElem? (i := 233) (by decide +kernel))) (by decide +kernel)), iniX12, rfl, Nat.le_of_ble_eq_true rfl⟩
theorem npX12_time : q_np mX12_time 2 := by unfold q_np; decide +kernel
def mX12_findTimes : q_M := (RX12, yX12_findTimes, cX12_findTimes, 5, (some .int), [])
theorem okX12_findTimes : q_Mok mX12_findTimes := ⟨by decide +kernel, ⟨by decide +kernel, by decide +kernel⟩, (q_in (q_t6 (List.mem_of_getElem? (i := 237) (by decide +kernel))) (by decide +kernel)), iniX12, rfl, Nat.le_of_ble_eq_true rfl⟩
theorem npX12_findTimes : q_np mX12_findTimes 0 := by unfold q_np; decide +kernel
def mX12_before : q_M := (RX12, yX12_before, cX12_before, 3, (some .int), [])
theorem okX12_before : q_Mok mX12_before := ⟨by decide +kernel, ⟨by decide +kernel, by decide +kernel⟩, (q_in (q_t7 (List.mem_of_getElem? (i := 1) (by decide +kernel))) (by decide +kernel)), iniX12, rfl, Nat.le_of_ble_eq_true rfl⟩
theorem npX12_before : q_np mX12_before 1 := by unfold q_np; decide +kernel
def mX12_isKnown : q_M := (RX12, yX12_isKnown, cX12_isKnown, 2, (some .boolean), [])
theorem okX12_isKnown : q_Mok mX12_isKnown := ⟨by decide +kernel, ⟨by decide +kernel, by decide +kernel⟩, (q_in (q_t7 (List.mem_of_getElem? (i := 5) (by decide +kernel))) (by decide +kernel)), iniX12, rfl, Nat.le_of_ble_eq_true rfl⟩
theorem npX12_isKnown : q_np mX12_isKnown 1 := by unfold q_np; decide +kernel
def mX12_ahead : q_M := (RX12, yX12_ahead, cX12_ahead, 4, (some .int), [])
theorem okX12_ahead : q_Mok mX12_ahead := ⟨by decide +kernel, ⟨by decide +kernel, by decide +kernel⟩, (q_in (q_t7 (List.mem_of_getElem? (i := 9) (by decide +kernel))) (by decide +kernel)), iniX12, rfl, Nat.le_of_ble_eq_true rfl⟩
theorem npX12_ahead : q_np mX12_ahead 1 := by unfold q_np; decide +kernel
def mX12_findTime : q_M := (RX12, yX12_findTime, cX12_findTime, 5, none, [])
theorem okX12_findTime : q_Mok mX12_findTime := ⟨by decide +kernel, ⟨by decide +kernel, by decide +kernel⟩, (q_in (q_t7 (List.mem_of_getElem? (i := 13) (by decide +kernel))) (by decide +kernel)), iniX12, rfl, Nat.le_of_ble_eq_true rfl⟩
theorem npX12_findTime : q_np mX12_findTime 1 := by unfold q_np; decide +kernel
def mX12_endOf : q_M := (RX12, yX12_endOf, cX12_endOf, 2, (some .int), [])
theorem okX12_endOf : q_Mok mX12_endOf := ⟨by decide +kernel, ⟨by decide +kernel, by decide +kernel⟩, (q_in (q_t7 (List.mem_of_getElem? (i := 17) (by decide +kernel))) (by decide +kernel)), iniX12, rfl, Nat.le_of_ble_eq_true rfl⟩
theorem npX12_endOf : q_np mX12_endOf 1 := by unfold q_np; decide +kernel
def mX12_setup : q_M := (RX12, yX12_setup, cX12_setup, 3, (some .int), [])
theorem okX12_setup : q_Mok mX12_setup := ⟨by decide +kernel, ⟨by decide +kernel, by decide +kernel⟩, (q_in (q_t7 (List.mem_of_getElem? (i := 22) (by decide +kernel))) (by decide +kernel)), iniX12, rfl, Nat.le_of_ble_eq_true rfl⟩
theorem npX12_setup : q_np mX12_setup 2 := by unfold q_np; decide +kernel
def mX12_free : q_M := (RX12, yX12_free, cX12_free, 9, (some .int), [])
theorem okX12_free : q_Mok mX12_free := ⟨by decide +kernel, ⟨by decide +kernel, by decide +kernel⟩, (q_in (q_t7 (List.mem_of_getElem? (i := 26) (by decide +kernel))) (by decide +kernel)), iniX12, rfl, Nat.le_of_ble_eq_true rfl⟩
theorem npX12_free : q_np mX12_free 3 := by unfold q_np; decide +kernel
def mX12_makespan : q_M := (RX12, yX12_makespan, cX12_makespan, 1, (some .int), [])
theorem okX12_makespan : q_Mok mX12_makespan := ⟨by decide +kernel, ⟨by decide +kernel, by decide +kernel⟩, (q_in (q_t7 (List.mem_of_getElem? (i := 30) (by decide +kernel))) (by decide +kernel)), iniX12, rfl, Nat.le_of_ble_eq_true rfl⟩
theorem npX12_makespan : q_np mX12_makespan 0 := by unfold q_np; decide +kernel
def mX12_makespanNow : q_M := (RX12, yX12_makespanNow, cX12_makespanNow, 1, (some .int), [])
theorem okX12_makespanNow : q_Mok mX12_makespanNow := ⟨by decide +kernel, ⟨by decide +kernel, by decide +kernel⟩, (q_in (q_t7 (List.mem_of_getElem? (i := 34) (by decide +kernel))) (by decide +kernel)), iniX12, rfl, Nat.le_of_ble_eq_true rfl⟩
theorem npX12_makespanNow : q_np mX12_makespanNow 0 := by unfold q_np; decide +kernel
def mX12_greatestEnd : q_M := (RX12, yX12_greatestEnd, cX12_greatestEnd, 3, (some .int), [])
theorem okX12_greatestEnd : q_Mok mX12_greatestEnd := ⟨by decide +kernel, ⟨by decide +kernel, by decide +kernel⟩, (q_in (q_t7 (List.mem_of_getElem? (i := 38) (by decide +kernel))) (by decide +kernel)), iniX12, rfl, Nat.le_of_ble_eq_true rfl⟩
theorem npX12_greatestEnd : q_np mX12_greatestEnd 0 := by unfold q_np; decide +kernel
def mX12_slack : q_M := (RX12, yX12_slack, cX12_slack, 6, (some .int), [])
theorem okX12_slack : q_Mok mX12_slack := ⟨by decide +kernel, ⟨by decide +kernel, by decide +kernel⟩, (q_in (q_t7 (List.mem_of_getElem? (i := 42) (by decide +kernel))) (by decide +kernel)), iniX12, rfl, Nat.le_of_ble_eq_true rfl⟩
theorem npX12_slack : q_np mX12_slack 1 := by unfold q_np; decide +kernel
def mX12_completion : q_M := (RX12, yX12_completion, cX12_completion, 3, (some .int), [])
theorem okX12_completion : q_Mok mX12_completion := ⟨by decide +kernel, ⟨by decide +kernel, by decide +kernel⟩, (q_in (q_t7 (List.mem_of_getElem? (i := 46) (by decide +kernel))) (by decide +kernel)), iniX12, rfl, Nat.le_of_ble_eq_true rfl⟩
theorem npX12_completion : q_np mX12_completion 1 := by unfold q_np; decide +kernel
def mX12_completionOf : q_M := (RX12, yX12_completionOf, cX12_completionOf, 3, (some .int), [])
theorem okX12_completionOf : q_Mok mX12_completionOf := ⟨by decide +kernel, ⟨by decide +kernel, by decide +kernel⟩, (q_in (q_t7 (List.mem_of_getElem? (i := 50) (by decide +kernel))) (by decide +kernel)), iniX12, rfl, Nat.le_of_ble_eq_true rfl⟩
theorem npX12_completionOf : q_np mX12_completionOf 1 := by unfold q_np; decide +kernel
def mX12_objective : q_M := (RX12, yX12_objective, cX12_objective, 6, (some .int), [])
theorem okX12_objective : q_Mok mX12_objective := ⟨by decide +kernel, ⟨by decide +kernel, by decide +kernel⟩, (q_in (q_t7 (List.mem_of_getElem? (i := 54) (by decide +kernel))) (by decide +kernel)), iniX12, rfl, Nat.le_of_ble_eq_true rfl⟩
theorem npX12_objective : q_np mX12_objective 1 := by unfold q_np; decide +kernel
def mX12_setupSum : q_M := (RX12, yX12_setupSum, cX12_setupSum, 4, (some .int), [])
theorem okX12_setupSum : q_Mok mX12_setupSum := ⟨by decide +kernel, ⟨by decide +kernel, by decide +kernel⟩, (q_in (q_t7 (List.mem_of_getElem? (i := 59) (by decide +kernel))) (by decide +kernel)), iniX12, rfl, Nat.le_of_ble_eq_true rfl⟩
theorem npX12_setupSum : q_np mX12_setupSum 0 := by unfold q_np; decide +kernel
def mX12_utilization : q_M := (RX12, yX12_utilization, cX12_utilization, 4, (some .double), [])
theorem okX12_utilization : q_Mok mX12_utilization := ⟨by decide +kernel, ⟨by decide +kernel, by decide +kernel⟩, (q_in (q_t7 (List.mem_of_getElem? (i := 63) (by decide +kernel))) (by decide +kernel)), iniX12, rfl, Nat.le_of_ble_eq_true rfl⟩
theorem npX12_utilization : q_np mX12_utilization 1 := by unfold q_np; decide +kernel
def mX12_pathLength : q_M := (RX12, yX12_pathLength, cX12_pathLength, 1, (some .int), [])
theorem okX12_pathLength : q_Mok mX12_pathLength := ⟨by decide +kernel, ⟨by decide +kernel, by decide +kernel⟩, (q_in (q_t7 (List.mem_of_getElem? (i := 67) (by decide +kernel))) (by decide +kernel)), iniX12, rfl, Nat.le_of_ble_eq_true rfl⟩
theorem npX12_pathLength : q_np mX12_pathLength 0 := by unfold q_np; decide +kernel
def mX12_findPath : q_M := (RX12, yX12_findPath, cX12_findPath, 5, none, [])
theorem okX12_findPath : q_Mok mX12_findPath := ⟨by decide +kernel, ⟨by decide +kernel, by decide +kernel⟩, (q_in (q_t7 (List.mem_of_getElem? (i := 71) (by decide +kernel))) (by decide +kernel)), iniX12, rfl, Nat.le_of_ble_eq_true rfl⟩
theorem npX12_findPath : q_np mX12_findPath 0 := by unfold q_np; decide +kernel
def mX12_path : q_M := (RX12, yX12_path, cX12_path, 2, (some .int), [])
theorem okX12_path : q_Mok mX12_path := ⟨by decide +kernel, ⟨by decide +kernel, by decide +kernel⟩, (q_in (q_t7 (List.mem_of_getElem? (i := 75) (by decide +kernel))) (by decide +kernel)), iniX12, rfl, Nat.le_of_ble_eq_true rfl⟩
theorem npX12_path : q_np mX12_path 1 := by unfold q_np; decide +kernel
def mX12_onPath : q_M := (RX12, yX12_onPath, cX12_onPath, 2, (some .int), [])
theorem okX12_onPath : q_Mok mX12_onPath := ⟨by decide +kernel, ⟨by decide +kernel, by decide +kernel⟩, (q_in (q_t7 (List.mem_of_getElem? (i := 79) (by decide +kernel))) (by decide +kernel)), iniX12, rfl, Nat.le_of_ble_eq_true rfl⟩
theorem npX12_onPath : q_np mX12_onPath 1 := by unfold q_np; decide +kernel
def mX12_blocks : q_M := (RX12, yX12_blocks, cX12_blocks, 1, (some .int), [])
theorem okX12_blocks : q_Mok mX12_blocks := ⟨by decide +kernel, ⟨by decide +kernel, by decide +kernel⟩, (q_in (q_t7 (List.mem_of_getElem? (i := 83) (by decide +kernel))) (by decide +kernel)), iniX12, rfl, Nat.le_of_ble_eq_true rfl⟩
theorem npX12_blocks : q_np mX12_blocks 0 := by unfold q_np; decide +kernel
def mX12_blockMany : q_M := (RX12, yX12_blockMany, cX12_blockMany, 3, (some .int), [])
theorem okX12_blockMany : q_Mok mX12_blockMany := ⟨by decide +kernel, ⟨by decide +kernel, by decide +kernel⟩, (q_in (q_t7 (List.mem_of_getElem? (i := 87) (by decide +kernel))) (by decide +kernel)), iniX12, rfl, Nat.le_of_ble_eq_true rfl⟩
theorem npX12_blockMany : q_np mX12_blockMany 0 := by unfold q_np; decide +kernel
def mX12_beginsBlock : q_M := (RX12, yX12_beginsBlock, cX12_beginsBlock, 2, (some .boolean), [])
theorem okX12_beginsBlock : q_Mok mX12_beginsBlock := ⟨by decide +kernel, ⟨by decide +kernel, by decide +kernel⟩, (q_in (q_t7 (List.mem_of_getElem? (i := 91) (by decide +kernel))) (by decide +kernel)), iniX12, rfl, Nat.le_of_ble_eq_true rfl⟩
theorem npX12_beginsBlock : q_np mX12_beginsBlock 1 := by unfold q_np; decide +kernel
def mX12_blockLength : q_M := (RX12, yX12_blockLength, cX12_blockLength, 5, (some .int), [])
theorem okX12_blockLength : q_Mok mX12_blockLength := ⟨by decide +kernel, ⟨by decide +kernel, by decide +kernel⟩, (q_in (q_t7 (List.mem_of_getElem? (i := 95) (by decide +kernel))) (by decide +kernel)), iniX12, rfl, Nat.le_of_ble_eq_true rfl⟩
theorem npX12_blockLength : q_np mX12_blockLength 1 := by unfold q_np; decide +kernel
def mX12_failure : q_M := (RX12, yX12_failure, cX12_failure, 2, (some .int), [])
theorem okX12_failure : q_Mok mX12_failure := ⟨by decide +kernel, ⟨by decide +kernel, by decide +kernel⟩, (q_in (q_t7 (List.mem_of_getElem? (i := 99) (by decide +kernel))) (by decide +kernel)), iniX12, rfl, Nat.le_of_ble_eq_true rfl⟩
theorem npX12_failure : q_np mX12_failure 1 := by unfold q_np; decide +kernel
def mX12_swap : q_M := (RX12, yX12_swap, cX12_swap, 3, (some .int), [])
theorem okX12_swap : q_Mok mX12_swap := ⟨by decide +kernel, ⟨by decide +kernel, by decide +kernel⟩, (q_in (q_t7 (List.mem_of_getElem? (i := 103) (by decide +kernel))) (by decide +kernel)), iniX12, rfl, Nat.le_of_ble_eq_true rfl⟩
theorem npX12_swap : q_np mX12_swap 2 := by unfold q_np; decide +kernel
def mX12_exchange : q_M := (RX12, yX12_exchange, cX12_exchange, 4, none, [])
theorem okX12_exchange : q_Mok mX12_exchange := ⟨by decide +kernel, ⟨by decide +kernel, by decide +kernel⟩, (q_in (q_t7 (List.mem_of_getElem? (i := 107) (by decide +kernel))) (by decide +kernel)), iniX12, rfl, Nat.le_of_ble_eq_true rfl⟩
theorem npX12_exchange : q_np mX12_exchange 2 := by unfold q_np; decide +kernel
def mX12_failsByCycle : q_M := (RX12, yX12_failsByCycle, cX12_failsByCycle, 3, (some .boolean), [])
theorem okX12_failsByCycle : q_Mok mX12_failsByCycle := ⟨by decide +kernel, ⟨by decide +kernel, by decide +kernel⟩, (q_in (q_t7 (List.mem_of_getElem? (i := 111) (by decide +kernel))) (by decide +kernel)), iniX12, rfl, Nat.le_of_ble_eq_true rfl⟩
theorem npX12_failsByCycle : q_np mX12_failsByCycle 0 := by unfold q_np; decide +kernel
def mX12_fail : q_M := (RX12, yX12_fail, cX12_fail, 6, none, [])
theorem okX12_fail : q_Mok mX12_fail := ⟨by decide +kernel, ⟨by decide +kernel, by decide +kernel⟩, (q_in (q_t7 (List.mem_of_getElem? (i := 115) (by decide +kernel))) (by decide +kernel)), iniX12, rfl, Nat.le_of_ble_eq_true rfl⟩
theorem npX12_fail : q_np mX12_fail 5 := by unfold q_np; decide +kernel
def mX12_move : q_M := (RX12, yX12_move, cX12_move, 5, (some .int), [])
theorem okX12_move : q_Mok mX12_move := ⟨by decide +kernel, ⟨by decide +kernel, by decide +kernel⟩, (q_in (q_t7 (List.mem_of_getElem? (i := 119) (by decide +kernel))) (by decide +kernel)), iniX12, rfl, Nat.le_of_ble_eq_true rfl⟩
theorem npX12_move : q_np mX12_move 2 := by unfold q_np; decide +kernel
def mX12_shift : q_M := (RX12, yX12_shift, cX12_shift, 5, none, [])
theorem okX12_shift : q_Mok mX12_shift := ⟨by decide +kernel, ⟨by decide +kernel, by decide +kernel⟩, (q_in (q_t7 (List.mem_of_getElem? (i := 123) (by decide +kernel))) (by decide +kernel)), iniX12, rfl, Nat.le_of_ble_eq_true rfl⟩
theorem npX12_shift : q_np mX12_shift 3 := by unfold q_np; decide +kernel
def mX12_dispatch : q_M := (RX12, yX12_dispatch, cX12_dispatch, 3, (some .int), [])
theorem okX12_dispatch : q_Mok mX12_dispatch := ⟨by decide +kernel, ⟨by decide +kernel, by decide +kernel⟩, (q_in (q_t7 (List.mem_of_getElem? (i := 127) (by decide +kernel))) (by decide +kernel)), iniX12, rfl, Nat.le_of_ble_eq_true rfl⟩
theorem npX12_dispatch : q_np mX12_dispatch 1 := by unfold q_np; decide +kernel
def mX12_build : q_M := (RX12, yX12_build, cX12_build, 9, none, [])
theorem okX12_build : q_Mok mX12_build := ⟨by decide +kernel, ⟨by decide +kernel, by decide +kernel⟩, (q_in (q_t7 (List.mem_of_getElem? (i := 131) (by decide +kernel))) (by decide +kernel)), iniX12, rfl, Nat.le_of_ble_eq_true rfl⟩
theorem npX12_build : q_np mX12_build 2 := by unfold q_np; decide +kernel
def mX12_candidateStart : q_M := (RX12, yX12_candidateStart, cX12_candidateStart, 8, (some .int), [])
theorem okX12_candidateStart : q_Mok mX12_candidateStart := ⟨by decide +kernel, ⟨by decide +kernel, by decide +kernel⟩, (q_in (q_t7 (List.mem_of_getElem? (i := 135) (by decide +kernel))) (by decide +kernel)), iniX12, rfl, Nat.le_of_ble_eq_true rfl⟩
theorem npX12_candidateStart : q_np mX12_candidateStart 2 := by unfold q_np; decide +kernel
def mX12_prefers : q_M := (RX12, yX12_prefers, cX12_prefers, 4, (some .boolean), [])
theorem okX12_prefers : q_Mok mX12_prefers := ⟨by decide +kernel, ⟨by decide +kernel, by decide +kernel⟩, (q_in (q_t7 (List.mem_of_getElem? (i := 139) (by decide +kernel))) (by decide +kernel)), iniX12, rfl, Nat.le_of_ble_eq_true rfl⟩
theorem npX12_prefers : q_np mX12_prefers 3 := by unfold q_np; decide +kernel
def mX12_restOf : q_M := (RX12, yX12_restOf, cX12_restOf, 5, (some .int), [])
theorem okX12_restOf : q_Mok mX12_restOf := ⟨by decide +kernel, ⟨by decide +kernel, by decide +kernel⟩, (q_in (q_t7 (List.mem_of_getElem? (i := 143) (by decide +kernel))) (by decide +kernel)), iniX12, rfl, Nat.le_of_ble_eq_true rfl⟩
theorem npX12_restOf : q_np mX12_restOf 1 := by unfold q_np; decide +kernel
def mX12_repair : q_M := (RX12, yX12_repair, cX12_repair, 7, (some .int), [])
theorem okX12_repair : q_Mok mX12_repair := ⟨by decide +kernel, ⟨by decide +kernel, by decide +kernel⟩, (q_in (q_t7 (List.mem_of_getElem? (i := 147) (by decide +kernel))) (by decide +kernel)), iniX12, rfl, Nat.le_of_ble_eq_true rfl⟩
theorem npX12_repair : q_np mX12_repair 2 := by unfold q_np; decide +kernel
def mX12_best : q_M := (RX12, yX12_best, cX12_best, 2, (some .int), [])
theorem okX12_best : q_Mok mX12_best := ⟨by decide +kernel, ⟨by decide +kernel, by decide +kernel⟩, (q_in (q_t7 (List.mem_of_getElem? (i := 152) (by decide +kernel))) (by decide +kernel)), iniX12, rfl, Nat.le_of_ble_eq_true rfl⟩
theorem npX12_best : q_np mX12_best 1 := by unfold q_np; decide +kernel
def mX12_findBest : q_M := (RX12, yX12_findBest, cX12_findBest, 4, none, [])
theorem okX12_findBest : q_Mok mX12_findBest := ⟨by decide +kernel, ⟨by decide +kernel, by decide +kernel⟩, (q_in (q_t7 (List.mem_of_getElem? (i := 156) (by decide +kernel))) (by decide +kernel)), iniX12, rfl, Nat.le_of_ble_eq_true rfl⟩
theorem npX12_findBest : q_np mX12_findBest 1 := by unfold q_np; decide +kernel
def mX12_tryOrders : q_M := (RX12, yX12_tryOrders, cX12_tryOrders, 6, none, [])
theorem okX12_tryOrders : q_Mok mX12_tryOrders := ⟨by decide +kernel, ⟨by decide +kernel, by decide +kernel⟩, (q_in (q_t7 (List.mem_of_getElem? (i := 160) (by decide +kernel))) (by decide +kernel)), iniX12, rfl, Nat.le_of_ble_eq_true rfl⟩
theorem npX12_tryOrders : q_np mX12_tryOrders 2 := by unfold q_np; decide +kernel
def mX12_reoptimize : q_M := (RX12, yX12_reoptimize, cX12_reoptimize, 2, (some .int), [])
theorem okX12_reoptimize : q_Mok mX12_reoptimize := ⟨by decide +kernel, ⟨by decide +kernel, by decide +kernel⟩, (q_in (q_t7 (List.mem_of_getElem? (i := 164) (by decide +kernel))) (by decide +kernel)), iniX12, rfl, Nat.le_of_ble_eq_true rfl⟩
theorem npX12_reoptimize : q_np mX12_reoptimize 1 := by unfold q_np; decide +kernel
def mX12_takeBest : q_M := (RX12, yX12_takeBest, cX12_takeBest, 4, (some .int), [])
theorem okX12_takeBest : q_Mok mX12_takeBest := ⟨by decide +kernel, ⟨by decide +kernel, by decide +kernel⟩, (q_in (q_t7 (List.mem_of_getElem? (i := 168) (by decide +kernel))) (by decide +kernel)), iniX12, rfl, Nat.le_of_ble_eq_true rfl⟩
theorem npX12_takeBest : q_np mX12_takeBest 1 := by unfold q_np; decide +kernel
def mX12_shiftBottlenecks : q_M := (RX12, yX12_shiftBottlenecks, cX12_shiftBottlenecks, 6, (some .int), [])
theorem okX12_shiftBottlenecks : q_Mok mX12_shiftBottlenecks := ⟨by decide +kernel, ⟨by decide +kernel, by decide +kernel⟩, (q_in (q_t7 (List.mem_of_getElem? (i := 172) (by decide +kernel))) (by decide +kernel)), iniX12, rfl, Nat.le_of_ble_eq_true rfl⟩
theorem npX12_shiftBottlenecks : q_np mX12_shiftBottlenecks 0 := by unfold q_np; decide +kernel
def mX12_bottleneck : q_M := (RX12, yX12_bottleneck, cX12_bottleneck, 2, (some .int), [])
theorem okX12_bottleneck : q_Mok mX12_bottleneck := ⟨by decide +kernel, ⟨by decide +kernel, by decide +kernel⟩, (q_in (q_t7 (List.mem_of_getElem? (i := 176) (by decide +kernel))) (by decide +kernel)), iniX12, rfl, Nat.le_of_ble_eq_true rfl⟩
theorem npX12_bottleneck : q_np mX12_bottleneck 1 := by unfold q_np; decide +kernel
def mX12_tabu : q_M := (RX12, yX12_tabu, cX12_tabu, 14, (some .int), [])
theorem okX12_tabu : q_Mok mX12_tabu := ⟨by decide +kernel, ⟨by decide +kernel, by decide +kernel⟩, (q_in (q_t7 (List.mem_of_getElem? (i := 180) (by decide +kernel))) (by decide +kernel)), iniX12, rfl, Nat.le_of_ble_eq_true rfl⟩
theorem npX12_tabu : q_np mX12_tabu 2 := by unfold q_np; decide +kernel
def mX12_findSwaps : q_M := (RX12, yX12_findSwaps, cX12_findSwaps, 3, none, [])
theorem okX12_findSwaps : q_Mok mX12_findSwaps := ⟨by decide +kernel, ⟨by decide +kernel, by decide +kernel⟩, (q_in (q_t7 (List.mem_of_getElem? (i := 186) (by decide +kernel))) (by decide +kernel)), iniX12, rfl, Nat.le_of_ble_eq_true rfl⟩
theorem npX12_findSwaps : q_np mX12_findSwaps 0 := by unfold q_np; decide +kernel
def mX12_tabuSteps : q_M := (RX12, yX12_tabuSteps, cX12_tabuSteps, 1, (some .int), [])
theorem okX12_tabuSteps : q_Mok mX12_tabuSteps := ⟨by decide +kernel, ⟨by decide +kernel, by decide +kernel⟩, (q_in (q_t7 (List.mem_of_getElem? (i := 190) (by decide +kernel))) (by decide +kernel)), iniX12, rfl, Nat.le_of_ble_eq_true rfl⟩
theorem npX12_tabuSteps : q_np mX12_tabuSteps 0 := by unfold q_np; decide +kernel
def mX12_bound : q_M := (RX12, yX12_bound, cX12_bound, 2, (some .int), [])
theorem okX12_bound : q_Mok mX12_bound := ⟨by decide +kernel, ⟨by decide +kernel, by decide +kernel⟩, (q_in (q_t7 (List.mem_of_getElem? (i := 194) (by decide +kernel))) (by decide +kernel)), iniX12, rfl, Nat.le_of_ble_eq_true rfl⟩
theorem npX12_bound : q_np mX12_bound 1 := by unfold q_np; decide +kernel
def mX12_boundOf : q_M := (RX12, yX12_boundOf, cX12_boundOf, 8, (some .int), [])
theorem okX12_boundOf : q_Mok mX12_boundOf := ⟨by decide +kernel, ⟨by decide +kernel, by decide +kernel⟩, (q_in (q_t7 (List.mem_of_getElem? (i := 198) (by decide +kernel))) (by decide +kernel)), iniX12, rfl, Nat.le_of_ble_eq_true rfl⟩
theorem npX12_boundOf : q_np mX12_boundOf 1 := by unfold q_np; decide +kernel
def mX12_lowerBound : q_M := (RX12, yX12_lowerBound, cX12_lowerBound, 3, (some .int), [])
theorem okX12_lowerBound : q_Mok mX12_lowerBound := ⟨by decide +kernel, ⟨by decide +kernel, by decide +kernel⟩, (q_in (q_t7 (List.mem_of_getElem? (i := 202) (by decide +kernel))) (by decide +kernel)), iniX12, rfl, Nat.le_of_ble_eq_true rfl⟩
theorem npX12_lowerBound : q_np mX12_lowerBound 0 := by unfold q_np; decide +kernel
def mX12_append : q_M := (RX12, yX12_append, cX12_append, 2, none, [])
theorem okX12_append : q_Mok mX12_append := ⟨by decide +kernel, ⟨by decide +kernel, by decide +kernel⟩, (q_in (q_t7 (List.mem_of_getElem? (i := 206) (by decide +kernel))) (by decide +kernel)), iniX12, rfl, Nat.le_of_ble_eq_true rfl⟩
theorem npX12_append : q_np mX12_append 1 := by unfold q_np; decide +kernel
def mX12_read : q_M := (RX12, yX12_read, cX12_read, 3, (some .int), [])
theorem okX12_read : q_Mok mX12_read := ⟨by decide +kernel, ⟨by decide +kernel, by decide +kernel⟩, (q_in (q_t7 (List.mem_of_getElem? (i := 210) (by decide +kernel))) (by decide +kernel)), iniX12, rfl, Nat.le_of_ble_eq_true rfl⟩
theorem npX12_read : q_np mX12_read 0 := by unfold q_np; decide +kernel
def mX12_readJob : q_M := (RX12, yX12_readJob, cX12_readJob, 8, none, [])
theorem okX12_readJob : q_Mok mX12_readJob := ⟨by decide +kernel, ⟨by decide +kernel, by decide +kernel⟩, (q_in (q_t7 (List.mem_of_getElem? (i := 214) (by decide +kernel))) (by decide +kernel)), iniX12, rfl, Nat.le_of_ble_eq_true rfl⟩
theorem npX12_readJob : q_np mX12_readJob 1 := by unfold q_np; decide +kernel
def mX12_readNumber : q_M := (RX12, yX12_readNumber, cX12_readNumber, 4, none, [])
theorem okX12_readNumber : q_Mok mX12_readNumber := ⟨by decide +kernel, ⟨by decide +kernel, by decide +kernel⟩, (q_in (q_t7 (List.mem_of_getElem? (i := 218) (by decide +kernel))) (by decide +kernel)), iniX12, rfl, Nat.le_of_ble_eq_true rfl⟩
theorem npX12_readNumber : q_np mX12_readNumber 1 := by unfold q_np; decide +kernel
def mX12_isDigit : q_M := (RX12, yX12_isDigit, cX12_isDigit, 1, (some .boolean), [])
theorem okX12_isDigit : q_Mok mX12_isDigit := ⟨by decide +kernel, ⟨by decide +kernel, by decide +kernel⟩, (q_in (q_t7 (List.mem_of_getElem? (i := 222) (by decide +kernel))) (by decide +kernel)), iniX12, rfl, Nat.le_of_ble_eq_true rfl⟩
theorem npX12_isDigit : q_np mX12_isDigit 0 := by unfold q_np; decide +kernel
def mX12_wants : q_M := (RX12, yX12_wants, cX12_wants, 2, none, [])
theorem okX12_wants : q_Mok mX12_wants := ⟨by decide +kernel, ⟨by decide +kernel, by decide +kernel⟩, (q_in (q_t7 (List.mem_of_getElem? (i := 228) (by decide +kernel))) (by decide +kernel)), iniX12, rfl, Nat.le_of_ble_eq_true rfl⟩
theorem npX12_wants : q_np mX12_wants 1 := by unfold q_np; decide +kernel
def mX12_takes : q_M := (RX12, yX12_takes, cX12_takes, 3, (some .boolean), [])
theorem okX12_takes : q_Mok mX12_takes := ⟨by decide +kernel, ⟨by decide +kernel, by decide +kernel⟩, (q_in (q_t7 (List.mem_of_getElem? (i := 232) (by decide +kernel))) (by decide +kernel)), iniX12, rfl, Nat.le_of_ble_eq_true rfl⟩
theorem npX12_takes : q_np mX12_takes 1 := by unfold q_np; decide +kernel
def mX12_cannot : q_M := (RX12, yX12_cannot, cX12_cannot, 4, none, [])
theorem okX12_cannot : q_Mok mX12_cannot := ⟨by decide +kernel, ⟨by decide +kernel, by decide +kernel⟩, (q_in (q_t7 (List.mem_of_getElem? (i := 236) (by decide +kernel))) (by decide +kernel)), iniX12, rfl, Nat.le_of_ble_eq_true rfl⟩
theorem npX12_cannot : q_np mX12_cannot 3 := by unfold q_np; decide +kernel
def mX12_readOperation : q_M := (RX12, yX12_readOperation, cX12_readOperation, 7, none, [])
theorem okX12_readOperation : q_Mok mX12_readOperation := ⟨by decide +kernel, ⟨by decide +kernel, by decide +kernel⟩, (q_in (q_t8 (List.mem_of_getElem? (i := 0) (by decide +kernel))) (by decide +kernel)), iniX12, rfl, Nat.le_of_ble_eq_true rfl⟩
theorem npX12_readOperation : q_np mX12_readOperation 3 := by unfold q_np; decide +kernel
def mX12_save : q_M := (RX12, yX12_save, cX12_save, 1, none, [])
theorem okX12_save : q_Mok mX12_save := ⟨by decide +kernel, ⟨by decide +kernel, by decide +kernel⟩, (q_in (q_t8 (List.mem_of_getElem? (i := 4) (by decide +kernel))) (by decide +kernel)), iniX12, rfl, Nat.le_of_ble_eq_true rfl⟩
theorem npX12_save : q_np mX12_save 0 := by unfold q_np; decide +kernel
def mX12_restore : q_M := (RX12, yX12_restore, cX12_restore, 1, none, [])
theorem okX12_restore : q_Mok mX12_restore := ⟨by decide +kernel, ⟨by decide +kernel, by decide +kernel⟩, (q_in (q_t8 (List.mem_of_getElem? (i := 8) (by decide +kernel))) (by decide +kernel)), iniX12, rfl, Nat.le_of_ble_eq_true rfl⟩
theorem npX12_restore : q_np mX12_restore 0 := by unfold q_np; decide +kernel
def mL_law : q_M := (RL, yL_law, cL_law, 9, (some .boolean), [])
