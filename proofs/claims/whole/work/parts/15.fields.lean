theorem uwX0 : ∀ w ∈ u_ws RX0 TX0 4, w ∈ q_tw := by
  have h : (u_ws RX0 TX0 4).all (fun w => decide (w ∈ lw_tbl) && goodWord w) = true := by decide +kernel
  intro w hw
  have h1 := List.all_eq_true.mp h w hw
  rw [Bool.and_eq_true, decide_eq_true_eq] at h1
  exact q_in h1.1 h1.2
theorem uwX1 : ∀ w ∈ u_ws RX1 TX1 4, w ∈ q_tw := by
  have h : (u_ws RX1 TX1 4).all (fun w => decide (w ∈ lw_tbl) && goodWord w) = true := by decide +kernel
  intro w hw
  have h1 := List.all_eq_true.mp h w hw
  rw [Bool.and_eq_true, decide_eq_true_eq] at h1
  exact q_in h1.1 h1.2
theorem uwX2 : ∀ w ∈ u_ws RX2 TX2 5, w ∈ q_tw := by
  have h : (u_ws RX2 TX2 5).all (fun w => decide (w ∈ lw_tbl) && goodWord w) = true := by decide +kernel
  intro w hw
  have h1 := List.all_eq_true.mp h w hw
  rw [Bool.and_eq_true, decide_eq_true_eq] at h1
  exact q_in h1.1 h1.2
theorem uwX3 : ∀ w ∈ u_ws RX3 TX3 4, w ∈ q_tw := by
  have h : (u_ws RX3 TX3 4).all (fun w => decide (w ∈ lw_tbl) && goodWord w) = true := by decide +kernel
  intro w hw
  have h1 := List.all_eq_true.mp h w hw
  rw [Bool.and_eq_true, decide_eq_true_eq] at h1
  exact q_in h1.1 h1.2
theorem uwX4 : ∀ w ∈ u_ws RX4 TX4 2, w ∈ q_tw := by
  have h : (u_ws RX4 TX4 2).all (fun w => decide (w ∈ lw_tbl) && goodWord w) = true := by decide +kernel
  intro w hw
  have h1 := List.all_eq_true.mp h w hw
  rw [Bool.and_eq_true, decide_eq_true_eq] at h1
  exact q_in h1.1 h1.2
theorem uwX5 : ∀ w ∈ u_ws RX5 TX5 2, w ∈ q_tw := by
  have h : (u_ws RX5 TX5 2).all (fun w => decide (w ∈ lw_tbl) && goodWord w) = true := by decide +kernel
  intro w hw
  have h1 := List.all_eq_true.mp h w hw
  rw [Bool.and_eq_true, decide_eq_true_eq] at h1
  exact q_in h1.1 h1.2
theorem uwX6 : ∀ w ∈ u_ws RX6 TX6 3, w ∈ q_tw := by
  have h : (u_ws RX6 TX6 3).all (fun w => decide (w ∈ lw_tbl) && goodWord w) = true := by decide +kernel
  intro w hw
  have h1 := List.all_eq_true.mp h w hw
  rw [Bool.and_eq_true, decide_eq_true_eq] at h1
  exact q_in h1.1 h1.2
theorem uwX7 : ∀ w ∈ u_ws RX7 TX7 15, w ∈ q_tw := by
  have h : (u_ws RX7 TX7 15).all (fun w => decide (w ∈ lw_tbl) && goodWord w) = true := by decide +kernel
  intro w hw
  have h1 := List.all_eq_true.mp h w hw
  rw [Bool.and_eq_true, decide_eq_true_eq] at h1
  exact q_in h1.1 h1.2
theorem uwX8 : ∀ w ∈ u_ws RX8 TX8 9, w ∈ q_tw := by
  have h : (u_ws RX8 TX8 9).all (fun w => decide (w ∈ lw_tbl) && goodWord w) = true := by decide +kernel
  intro w hw
  have h1 := List.all_eq_true.mp h w hw
  rw [Bool.and_eq_true, decide_eq_true_eq] at h1
  exact q_in h1.1 h1.2
theorem uwX9 : ∀ w ∈ u_ws RX9 TX9 8, w ∈ q_tw := by
  have h : (u_ws RX9 TX9 8).all (fun w => decide (w ∈ lw_tbl) && goodWord w) = true := by decide +kernel
  intro w hw
  have h1 := List.all_eq_true.mp h w hw
  rw [Bool.and_eq_true, decide_eq_true_eq] at h1
  exact q_in h1.1 h1.2
theorem uwX10 : ∀ w ∈ u_ws RX10 TX10 11, w ∈ q_tw := by
  have h : (u_ws RX10 TX10 11).all (fun w => decide (w ∈ lw_tbl) && goodWord w) = true := by decide +kernel
  intro w hw
  have h1 := List.all_eq_true.mp h w hw
  rw [Bool.and_eq_true, decide_eq_true_eq] at h1
  exact q_in h1.1 h1.2
theorem uwX11 : ∀ w ∈ u_ws RX11 TX11 14, w ∈ q_tw := by
  have h : (u_ws RX11 TX11 14).all (fun w => decide (w ∈ lw_tbl) && goodWord w) = true := by decide +kernel
  intro w hw
  have h1 := List.all_eq_true.mp h w hw
  rw [Bool.and_eq_true, decide_eq_true_eq] at h1
  exact q_in h1.1 h1.2
theorem uwX12 : ∀ w ∈ u_ws RX12 TX12 37, w ∈ q_tw := by
  have h : (u_ws RX12 TX12 37).all (fun w => decide (w ∈ lw_tbl) && goodWord w) = true := by decide +kernel
  intro w hw
  have h1 := List.all_eq_true.mp h w hw
  rw [Bool.and_eq_true, decide_eq_true_eq] at h1
  exact q_in h1.1 h1.2
theorem fX5_9 : q_fl RX5 9 5 0 := ⟨RX5, TX5, 2, rfl, by decide, (q_in (q_t1 (List.mem_of_getElem? (i := 46) (by decide +kernel))) (by decide +kernel)), rfl, uwX5⟩
theorem gX5_9 : q_fp RX5 9 5 0 (.array .int) true := ⟨RX5, TX5, 2, tyX5, rfl, by decide, (q_in (q_t1 (List.mem_of_getElem? (i := 46) (by decide +kernel))) (by decide +kernel)), rfl, uwX5, tyX5_ok, nmX5, rfl, by decide +kernel⟩
theorem fX6_44 : q_fl RX6 44 5 0 := ⟨RX5, TX5, 2, rfl, by decide, (q_in (q_t1 (List.mem_of_getElem? (i := 47) (by decide +kernel))) (by decide +kernel)), rfl, uwX5⟩
theorem gX6_44 : q_fp RX6 44 5 0 (.array .int) true := ⟨RX5, TX5, 2, tyX5, rfl, by decide, (q_in (q_t1 (List.mem_of_getElem? (i := 47) (by decide +kernel))) (by decide +kernel)), rfl, uwX5, tyX5_ok, nmX5, rfl, by decide +kernel⟩
theorem fX3_57 : q_fl RX3 57 5 0 := ⟨RX5, TX5, 2, rfl, by decide, (q_in (q_t1 (List.mem_of_getElem? (i := 48) (by decide +kernel))) (by decide +kernel)), rfl, uwX5⟩
theorem gX3_57 : q_fp RX3 57 5 0 (.array .int) true := ⟨RX5, TX5, 2, tyX5, rfl, by decide, (q_in (q_t1 (List.mem_of_getElem? (i := 48) (by decide +kernel))) (by decide +kernel)), rfl, uwX5, tyX5_ok, nmX5, rfl, by decide +kernel⟩
theorem fX8_77 : q_fl RX8 77 5 0 := ⟨RX5, TX5, 2, rfl, by decide, (q_in (q_t1 (List.mem_of_getElem? (i := 49) (by decide +kernel))) (by decide +kernel)), rfl, uwX5⟩
theorem gX8_77 : q_fp RX8 77 5 0 (.array .int) true := ⟨RX5, TX5, 2, tyX5, rfl, by decide, (q_in (q_t1 (List.mem_of_getElem? (i := 49) (by decide +kernel))) (by decide +kernel)), rfl, uwX5, tyX5_ok, nmX5, rfl, by decide +kernel⟩
theorem fX10_93 : q_fl RX10 93 5 0 := ⟨RX5, TX5, 2, rfl, by decide, (q_in (q_t1 (List.mem_of_getElem? (i := 50) (by decide +kernel))) (by decide +kernel)), rfl, uwX5⟩
theorem gX10_93 : q_fp RX10 93 5 0 (.array .int) true := ⟨RX5, TX5, 2, tyX5, rfl, by decide, (q_in (q_t1 (List.mem_of_getElem? (i := 50) (by decide +kernel))) (by decide +kernel)), rfl, uwX5, tyX5_ok, nmX5, rfl, by decide +kernel⟩
theorem fX11_266 : q_fl RX11 266 5 0 := ⟨RX5, TX5, 2, rfl, by decide, (q_in (q_t1 (List.mem_of_getElem? (i := 51) (by decide +kernel))) (by decide +kernel)), rfl, uwX5⟩
theorem gX11_266 : q_fp RX11 266 5 0 (.array .int) true := ⟨RX5, TX5, 2, tyX5, rfl, by decide, (q_in (q_t1 (List.mem_of_getElem? (i := 51) (by decide +kernel))) (by decide +kernel)), rfl, uwX5, tyX5_ok, nmX5, rfl, by decide +kernel⟩
theorem fX5_17 : q_fl RX5 17 5 1 := ⟨RX5, TX5, 2, rfl, by decide, (q_in (q_t1 (List.mem_of_getElem? (i := 52) (by decide +kernel))) (by decide +kernel)), rfl, uwX5⟩
theorem gX5_17 : q_fp RX5 17 5 1 (.array (.array .int)) true := ⟨RX5, TX5, 2, tyX5, rfl, by decide, (q_in (q_t1 (List.mem_of_getElem? (i := 52) (by decide +kernel))) (by decide +kernel)), rfl, uwX5, tyX5_ok, nmX5, rfl, by decide +kernel⟩
theorem fX6_38 : q_fl RX6 38 5 1 := ⟨RX5, TX5, 2, rfl, by decide, (q_in (q_t1 (List.mem_of_getElem? (i := 53) (by decide +kernel))) (by decide +kernel)), rfl, uwX5⟩
theorem gX6_38 : q_fp RX6 38 5 1 (.array (.array .int)) true := ⟨RX5, TX5, 2, tyX5, rfl, by decide, (q_in (q_t1 (List.mem_of_getElem? (i := 53) (by decide +kernel))) (by decide +kernel)), rfl, uwX5, tyX5_ok, nmX5, rfl, by decide +kernel⟩
theorem fX0_63 : q_fl RX0 63 5 1 := ⟨RX5, TX5, 2, rfl, by decide, (q_in (q_t1 (List.mem_of_getElem? (i := 54) (by decide +kernel))) (by decide +kernel)), rfl, uwX5⟩
theorem gX0_63 : q_fp RX0 63 5 1 (.array (.array .int)) true := ⟨RX5, TX5, 2, tyX5, rfl, by decide, (q_in (q_t1 (List.mem_of_getElem? (i := 54) (by decide +kernel))) (by decide +kernel)), rfl, uwX5, tyX5_ok, nmX5, rfl, by decide +kernel⟩
theorem fX3_70 : q_fl RX3 70 5 1 := ⟨RX5, TX5, 2, rfl, by decide, (q_in (q_t1 (List.mem_of_getElem? (i := 55) (by decide +kernel))) (by decide +kernel)), rfl, uwX5⟩
theorem gX3_70 : q_fp RX3 70 5 1 (.array (.array .int)) true := ⟨RX5, TX5, 2, tyX5, rfl, by decide, (q_in (q_t1 (List.mem_of_getElem? (i := 55) (by decide +kernel))) (by decide +kernel)), rfl, uwX5, tyX5_ok, nmX5, rfl, by decide +kernel⟩
theorem fX8_85 : q_fl RX8 85 5 1 := ⟨RX5, TX5, 2, rfl, by decide, (q_in (q_t1 (List.mem_of_getElem? (i := 56) (by decide +kernel))) (by decide +kernel)), rfl, uwX5⟩
theorem gX8_85 : q_fp RX8 85 5 1 (.array (.array .int)) true := ⟨RX5, TX5, 2, tyX5, rfl, by decide, (q_in (q_t1 (List.mem_of_getElem? (i := 56) (by decide +kernel))) (by decide +kernel)), rfl, uwX5, tyX5_ok, nmX5, rfl, by decide +kernel⟩
theorem fX10_98 : q_fl RX10 98 5 1 := ⟨RX5, TX5, 2, rfl, by decide, (q_in (q_t1 (List.mem_of_getElem? (i := 57) (by decide +kernel))) (by decide +kernel)), rfl, uwX5⟩
theorem gX10_98 : q_fp RX10 98 5 1 (.array (.array .int)) true := ⟨RX5, TX5, 2, tyX5, rfl, by decide, (q_in (q_t1 (List.mem_of_getElem? (i := 57) (by decide +kernel))) (by decide +kernel)), rfl, uwX5, tyX5_ok, nmX5, rfl, by decide +kernel⟩
theorem fX11_216 : q_fl RX11 216 5 1 := ⟨RX5, TX5, 2, rfl, by decide, (q_in (q_t1 (List.mem_of_getElem? (i := 58) (by decide +kernel))) (by decide +kernel)), rfl, uwX5⟩
theorem gX11_216 : q_fp RX11 216 5 1 (.array (.array .int)) true := ⟨RX5, TX5, 2, tyX5, rfl, by decide, (q_in (q_t1 (List.mem_of_getElem? (i := 58) (by decide +kernel))) (by decide +kernel)), rfl, uwX5, tyX5_ok, nmX5, rfl, by decide +kernel⟩
theorem fX7_57 : q_fl RX7 57 7 0 := ⟨RX7, TX7, 15, rfl, by decide, (q_in (q_t1 (List.mem_of_getElem? (i := 65) (by decide +kernel))) (by decide +kernel)), rfl, uwX7⟩
theorem gX7_57 : q_fp RX7 57 7 0 .int false := ⟨RX7, TX7, 15, tyX7, rfl, by decide, (q_in (q_t1 (List.mem_of_getElem? (i := 65) (by decide +kernel))) (by decide +kernel)), rfl, uwX7, tyX7_ok, nmX7, rfl, by decide +kernel⟩
theorem fX11_99 : q_fl RX11 99 7 0 := ⟨RX7, TX7, 15, rfl, by decide, (q_in (q_t1 (List.mem_of_getElem? (i := 66) (by decide +kernel))) (by decide +kernel)), rfl, uwX7⟩
theorem gX11_99 : q_fp RX11 99 7 0 .int false := ⟨RX7, TX7, 15, tyX7, rfl, by decide, (q_in (q_t1 (List.mem_of_getElem? (i := 66) (by decide +kernel))) (by decide +kernel)), rfl, uwX7, tyX7_ok, nmX7, rfl, by decide +kernel⟩
theorem fX1_31 : q_fl RX1 31 7 0 := ⟨RX7, TX7, 15, rfl, by decide, (q_in (q_t1 (List.mem_of_getElem? (i := 67) (by decide +kernel))) (by decide +kernel)), rfl, uwX7⟩
theorem gX1_31 : q_fp RX1 31 7 0 .int false := ⟨RX7, TX7, 15, tyX7, rfl, by decide, (q_in (q_t1 (List.mem_of_getElem? (i := 67) (by decide +kernel))) (by decide +kernel)), rfl, uwX7, tyX7_ok, nmX7, rfl, by decide +kernel⟩
theorem fX10_49 : q_fl RX10 49 7 0 := ⟨RX7, TX7, 15, rfl, by decide, (q_in (q_t1 (List.mem_of_getElem? (i := 68) (by decide +kernel))) (by decide +kernel)), rfl, uwX7⟩
theorem gX10_49 : q_fp RX10 49 7 0 .int false := ⟨RX7, TX7, 15, tyX7, rfl, by decide, (q_in (q_t1 (List.mem_of_getElem? (i := 68) (by decide +kernel))) (by decide +kernel)), rfl, uwX7, tyX7_ok, nmX7, rfl, by decide +kernel⟩
theorem fX9_76 : q_fl RX9 76 7 0 := ⟨RX7, TX7, 15, rfl, by decide, (q_in (q_t1 (List.mem_of_getElem? (i := 69) (by decide +kernel))) (by decide +kernel)), rfl, uwX7⟩
theorem gX9_76 : q_fp RX9 76 7 0 .int false := ⟨RX7, TX7, 15, tyX7, rfl, by decide, (q_in (q_t1 (List.mem_of_getElem? (i := 69) (by decide +kernel))) (by decide +kernel)), rfl, uwX7, tyX7_ok, nmX7, rfl, by decide +kernel⟩
theorem fX3_74 : q_fl RX3 74 7 0 := ⟨RX7, TX7, 15, rfl, by decide, (q_in (q_t1 (List.mem_of_getElem? (i := 70) (by decide +kernel))) (by decide +kernel)), rfl, uwX7⟩
theorem gX3_74 : q_fp RX3 74 7 0 .int false := ⟨RX7, TX7, 15, tyX7, rfl, by decide, (q_in (q_t1 (List.mem_of_getElem? (i := 70) (by decide +kernel))) (by decide +kernel)), rfl, uwX7, tyX7_ok, nmX7, rfl, by decide +kernel⟩
theorem fX7_61 : q_fl RX7 61 7 1 := ⟨RX7, TX7, 15, rfl, by decide, (q_in (q_t1 (List.mem_of_getElem? (i := 71) (by decide +kernel))) (by decide +kernel)), rfl, uwX7⟩
theorem gX7_61 : q_fp RX7 61 7 1 .int false := ⟨RX7, TX7, 15, tyX7, rfl, by decide, (q_in (q_t1 (List.mem_of_getElem? (i := 71) (by decide +kernel))) (by decide +kernel)), rfl, uwX7, tyX7_ok, nmX7, rfl, by decide +kernel⟩
theorem fX3_22 : q_fl RX3 22 7 1 := ⟨RX7, TX7, 15, rfl, by decide, (q_in (q_t1 (List.mem_of_getElem? (i := 72) (by decide +kernel))) (by decide +kernel)), rfl, uwX7⟩
theorem gX3_22 : q_fp RX3 22 7 1 .int false := ⟨RX7, TX7, 15, tyX7, rfl, by decide, (q_in (q_t1 (List.mem_of_getElem? (i := 72) (by decide +kernel))) (by decide +kernel)), rfl, uwX7, tyX7_ok, nmX7, rfl, by decide +kernel⟩
theorem fX10_44 : q_fl RX10 44 7 1 := ⟨RX7, TX7, 15, rfl, by decide, (q_in (q_t1 (List.mem_of_getElem? (i := 73) (by decide +kernel))) (by decide +kernel)), rfl, uwX7⟩
theorem gX10_44 : q_fp RX10 44 7 1 .int false := ⟨RX7, TX7, 15, tyX7, rfl, by decide, (q_in (q_t1 (List.mem_of_getElem? (i := 73) (by decide +kernel))) (by decide +kernel)), rfl, uwX7, tyX7_ok, nmX7, rfl, by decide +kernel⟩
theorem fX1_59 : q_fl RX1 59 7 1 := ⟨RX7, TX7, 15, rfl, by decide, (q_in (q_t1 (List.mem_of_getElem? (i := 74) (by decide +kernel))) (by decide +kernel)), rfl, uwX7⟩
theorem gX1_59 : q_fp RX1 59 7 1 .int false := ⟨RX7, TX7, 15, tyX7, rfl, by decide, (q_in (q_t1 (List.mem_of_getElem? (i := 74) (by decide +kernel))) (by decide +kernel)), rfl, uwX7, tyX7_ok, nmX7, rfl, by decide +kernel⟩
theorem fX2_44 : q_fl RX2 44 7 1 := ⟨RX7, TX7, 15, rfl, by decide, (q_in (q_t1 (List.mem_of_getElem? (i := 75) (by decide +kernel))) (by decide +kernel)), rfl, uwX7⟩
theorem gX2_44 : q_fp RX2 44 7 1 .int false := ⟨RX7, TX7, 15, tyX7, rfl, by decide, (q_in (q_t1 (List.mem_of_getElem? (i := 75) (by decide +kernel))) (by decide +kernel)), rfl, uwX7, tyX7_ok, nmX7, rfl, by decide +kernel⟩
theorem fX11_181 : q_fl RX11 181 7 1 := ⟨RX7, TX7, 15, rfl, by decide, (q_in (q_t1 (List.mem_of_getElem? (i := 76) (by decide +kernel))) (by decide +kernel)), rfl, uwX7⟩
theorem gX11_181 : q_fp RX11 181 7 1 .int false := ⟨RX7, TX7, 15, tyX7, rfl, by decide, (q_in (q_t1 (List.mem_of_getElem? (i := 76) (by decide +kernel))) (by decide +kernel)), rfl, uwX7, tyX7_ok, nmX7, rfl, by decide +kernel⟩
theorem fX7_11 : q_fl RX7 11 7 2 := ⟨RX7, TX7, 15, rfl, by decide, (q_in (q_t1 (List.mem_of_getElem? (i := 77) (by decide +kernel))) (by decide +kernel)), rfl, uwX7⟩
theorem gX7_11 : q_fp RX7 11 7 2 (.array (.array .int)) true := ⟨RX7, TX7, 15, tyX7, rfl, by decide, (q_in (q_t1 (List.mem_of_getElem? (i := 77) (by decide +kernel))) (by decide +kernel)), rfl, uwX7, tyX7_ok, nmX7, rfl, by decide +kernel⟩
theorem fX1_40 : q_fl RX1 40 7 2 := ⟨RX7, TX7, 15, rfl, by decide, (q_in (q_t1 (List.mem_of_getElem? (i := 78) (by decide +kernel))) (by decide +kernel)), rfl, uwX7⟩
theorem gX1_40 : q_fp RX1 40 7 2 (.array (.array .int)) true := ⟨RX7, TX7, 15, tyX7, rfl, by decide, (q_in (q_t1 (List.mem_of_getElem? (i := 78) (by decide +kernel))) (by decide +kernel)), rfl, uwX7, tyX7_ok, nmX7, rfl, by decide +kernel⟩
theorem fX10_74 : q_fl RX10 74 7 2 := ⟨RX7, TX7, 15, rfl, by decide, (q_in (q_t1 (List.mem_of_getElem? (i := 79) (by decide +kernel))) (by decide +kernel)), rfl, uwX7⟩
theorem gX10_74 : q_fp RX10 74 7 2 (.array (.array .int)) true := ⟨RX7, TX7, 15, tyX7, rfl, by decide, (q_in (q_t1 (List.mem_of_getElem? (i := 79) (by decide +kernel))) (by decide +kernel)), rfl, uwX7, tyX7_ok, nmX7, rfl, by decide +kernel⟩
theorem fX11_147 : q_fl RX11 147 7 2 := ⟨RX7, TX7, 15, rfl, by decide, (q_in (q_t1 (List.mem_of_getElem? (i := 80) (by decide +kernel))) (by decide +kernel)), rfl, uwX7⟩
theorem gX11_147 : q_fp RX11 147 7 2 (.array (.array .int)) true := ⟨RX7, TX7, 15, tyX7, rfl, by decide, (q_in (q_t1 (List.mem_of_getElem? (i := 80) (by decide +kernel))) (by decide +kernel)), rfl, uwX7, tyX7_ok, nmX7, rfl, by decide +kernel⟩
theorem fX3_107 : q_fl RX3 107 7 2 := ⟨RX7, TX7, 15, rfl, by decide, (q_in (q_t1 (List.mem_of_getElem? (i := 81) (by decide +kernel))) (by decide +kernel)), rfl, uwX7⟩
theorem gX3_107 : q_fp RX3 107 7 2 (.array (.array .int)) true := ⟨RX7, TX7, 15, tyX7, rfl, by decide, (q_in (q_t1 (List.mem_of_getElem? (i := 81) (by decide +kernel))) (by decide +kernel)), rfl, uwX7, tyX7_ok, nmX7, rfl, by decide +kernel⟩
theorem fX7_16 : q_fl RX7 16 7 3 := ⟨RX7, TX7, 15, rfl, by decide, (q_in (q_t1 (List.mem_of_getElem? (i := 82) (by decide +kernel))) (by decide +kernel)), rfl, uwX7⟩
theorem gX7_16 : q_fp RX7 16 7 3 (.array .int) true := ⟨RX7, TX7, 15, tyX7, rfl, by decide, (q_in (q_t1 (List.mem_of_getElem? (i := 82) (by decide +kernel))) (by decide +kernel)), rfl, uwX7, tyX7_ok, nmX7, rfl, by decide +kernel⟩
theorem fX1_37 : q_fl RX1 37 7 3 := ⟨RX7, TX7, 15, rfl, by decide, (q_in (q_t1 (List.mem_of_getElem? (i := 83) (by decide +kernel))) (by decide +kernel)), rfl, uwX7⟩
theorem gX1_37 : q_fp RX1 37 7 3 (.array .int) true := ⟨RX7, TX7, 15, tyX7, rfl, by decide, (q_in (q_t1 (List.mem_of_getElem? (i := 83) (by decide +kernel))) (by decide +kernel)), rfl, uwX7, tyX7_ok, nmX7, rfl, by decide +kernel⟩
theorem fX10_52 : q_fl RX10 52 7 3 := ⟨RX7, TX7, 15, rfl, by decide, (q_in (q_t1 (List.mem_of_getElem? (i := 84) (by decide +kernel))) (by decide +kernel)), rfl, uwX7⟩
theorem gX10_52 : q_fp RX10 52 7 3 (.array .int) true := ⟨RX7, TX7, 15, tyX7, rfl, by decide, (q_in (q_t1 (List.mem_of_getElem? (i := 84) (by decide +kernel))) (by decide +kernel)), rfl, uwX7, tyX7_ok, nmX7, rfl, by decide +kernel⟩
theorem fX3_77 : q_fl RX3 77 7 3 := ⟨RX7, TX7, 15, rfl, by decide, (q_in (q_t1 (List.mem_of_getElem? (i := 85) (by decide +kernel))) (by decide +kernel)), rfl, uwX7⟩
theorem gX3_77 : q_fp RX3 77 7 3 (.array .int) true := ⟨RX7, TX7, 15, tyX7, rfl, by decide, (q_in (q_t1 (List.mem_of_getElem? (i := 85) (by decide +kernel))) (by decide +kernel)), rfl, uwX7, tyX7_ok, nmX7, rfl, by decide +kernel⟩
theorem fX7_20 : q_fl RX7 20 7 4 := ⟨RX7, TX7, 15, rfl, by decide, (q_in (q_t1 (List.mem_of_getElem? (i := 86) (by decide +kernel))) (by decide +kernel)), rfl, uwX7⟩
theorem gX7_20 : q_fp RX7 20 7 4 (.array (.array .int)) true := ⟨RX7, TX7, 15, tyX7, rfl, by decide, (q_in (q_t1 (List.mem_of_getElem? (i := 86) (by decide +kernel))) (by decide +kernel)), rfl, uwX7, tyX7_ok, nmX7, rfl, by decide +kernel⟩
theorem fX10_55 : q_fl RX10 55 7 4 := ⟨RX7, TX7, 15, rfl, by decide, (q_in (q_t1 (List.mem_of_getElem? (i := 87) (by decide +kernel))) (by decide +kernel)), rfl, uwX7⟩
theorem gX10_55 : q_fp RX10 55 7 4 (.array (.array .int)) true := ⟨RX7, TX7, 15, tyX7, rfl, by decide, (q_in (q_t1 (List.mem_of_getElem? (i := 87) (by decide +kernel))) (by decide +kernel)), rfl, uwX7, tyX7_ok, nmX7, rfl, by decide +kernel⟩
theorem fX3_80 : q_fl RX3 80 7 4 := ⟨RX7, TX7, 15, rfl, by decide, (q_in (q_t1 (List.mem_of_getElem? (i := 88) (by decide +kernel))) (by decide +kernel)), rfl, uwX7⟩
theorem gX3_80 : q_fp RX3 80 7 4 (.array (.array .int)) true := ⟨RX7, TX7, 15, tyX7, rfl, by decide, (q_in (q_t1 (List.mem_of_getElem? (i := 88) (by decide +kernel))) (by decide +kernel)), rfl, uwX7, tyX7_ok, nmX7, rfl, by decide +kernel⟩
theorem fX1_74 : q_fl RX1 74 7 4 := ⟨RX7, TX7, 15, rfl, by decide, (q_in (q_t1 (List.mem_of_getElem? (i := 89) (by decide +kernel))) (by decide +kernel)), rfl, uwX7⟩
theorem gX1_74 : q_fp RX1 74 7 4 (.array (.array .int)) true := ⟨RX7, TX7, 15, tyX7, rfl, by decide, (q_in (q_t1 (List.mem_of_getElem? (i := 89) (by decide +kernel))) (by decide +kernel)), rfl, uwX7, tyX7_ok, nmX7, rfl, by decide +kernel⟩
theorem fX7_23 : q_fl RX7 23 7 5 := ⟨RX7, TX7, 15, rfl, by decide, (q_in (q_t1 (List.mem_of_getElem? (i := 90) (by decide +kernel))) (by decide +kernel)), rfl, uwX7⟩
theorem gX7_23 : q_fp RX7 23 7 5 (.array .int) true := ⟨RX7, TX7, 15, tyX7, rfl, by decide, (q_in (q_t1 (List.mem_of_getElem? (i := 90) (by decide +kernel))) (by decide +kernel)), rfl, uwX7, tyX7_ok, nmX7, rfl, by decide +kernel⟩
theorem fX3_54 : q_fl RX3 54 7 5 := ⟨RX7, TX7, 15, rfl, by decide, (q_in (q_t1 (List.mem_of_getElem? (i := 91) (by decide +kernel))) (by decide +kernel)), rfl, uwX7⟩
theorem gX3_54 : q_fp RX3 54 7 5 (.array .int) true := ⟨RX7, TX7, 15, tyX7, rfl, by decide, (q_in (q_t1 (List.mem_of_getElem? (i := 91) (by decide +kernel))) (by decide +kernel)), rfl, uwX7, tyX7_ok, nmX7, rfl, by decide +kernel⟩
theorem fX1_65 : q_fl RX1 65 7 5 := ⟨RX7, TX7, 15, rfl, by decide, (q_in (q_t1 (List.mem_of_getElem? (i := 92) (by decide +kernel))) (by decide +kernel)), rfl, uwX7⟩
theorem gX1_65 : q_fp RX1 65 7 5 (.array .int) true := ⟨RX7, TX7, 15, tyX7, rfl, by decide, (q_in (q_t1 (List.mem_of_getElem? (i := 92) (by decide +kernel))) (by decide +kernel)), rfl, uwX7, tyX7_ok, nmX7, rfl, by decide +kernel⟩
theorem fX10_80 : q_fl RX10 80 7 5 := ⟨RX7, TX7, 15, rfl, by decide, (q_in (q_t1 (List.mem_of_getElem? (i := 93) (by decide +kernel))) (by decide +kernel)), rfl, uwX7⟩
theorem gX10_80 : q_fp RX10 80 7 5 (.array .int) true := ⟨RX7, TX7, 15, tyX7, rfl, by decide, (q_in (q_t1 (List.mem_of_getElem? (i := 93) (by decide +kernel))) (by decide +kernel)), rfl, uwX7, tyX7_ok, nmX7, rfl, by decide +kernel⟩
theorem fX11_184 : q_fl RX11 184 7 5 := ⟨RX7, TX7, 15, rfl, by decide, (q_in (q_t1 (List.mem_of_getElem? (i := 94) (by decide +kernel))) (by decide +kernel)), rfl, uwX7⟩
theorem gX11_184 : q_fp RX11 184 7 5 (.array .int) true := ⟨RX7, TX7, 15, tyX7, rfl, by decide, (q_in (q_t1 (List.mem_of_getElem? (i := 94) (by decide +kernel))) (by decide +kernel)), rfl, uwX7, tyX7_ok, nmX7, rfl, by decide +kernel⟩
theorem fX7_26 : q_fl RX7 26 7 6 := ⟨RX7, TX7, 15, rfl, by decide, (q_in (q_t1 (List.mem_of_getElem? (i := 95) (by decide +kernel))) (by decide +kernel)), rfl, uwX7⟩
theorem gX7_26 : q_fp RX7 26 7 6 (.array .int) true := ⟨RX7, TX7, 15, tyX7, rfl, by decide, (q_in (q_t1 (List.mem_of_getElem? (i := 95) (by decide +kernel))) (by decide +kernel)), rfl, uwX7, tyX7_ok, nmX7, rfl, by decide +kernel⟩
theorem fX3_39 : q_fl RX3 39 7 6 := ⟨RX7, TX7, 15, rfl, by decide, (q_in (q_t1 (List.mem_of_getElem? (i := 96) (by decide +kernel))) (by decide +kernel)), rfl, uwX7⟩
theorem gX3_39 : q_fp RX3 39 7 6 (.array .int) true := ⟨RX7, TX7, 15, tyX7, rfl, by decide, (q_in (q_t1 (List.mem_of_getElem? (i := 96) (by decide +kernel))) (by decide +kernel)), rfl, uwX7, tyX7_ok, nmX7, rfl, by decide +kernel⟩
theorem fX1_62 : q_fl RX1 62 7 6 := ⟨RX7, TX7, 15, rfl, by decide, (q_in (q_t1 (List.mem_of_getElem? (i := 97) (by decide +kernel))) (by decide +kernel)), rfl, uwX7⟩
theorem gX1_62 : q_fp RX1 62 7 6 (.array .int) true := ⟨RX7, TX7, 15, tyX7, rfl, by decide, (q_in (q_t1 (List.mem_of_getElem? (i := 97) (by decide +kernel))) (by decide +kernel)), rfl, uwX7, tyX7_ok, nmX7, rfl, by decide +kernel⟩
theorem fX10_86 : q_fl RX10 86 7 6 := ⟨RX7, TX7, 15, rfl, by decide, (q_in (q_t1 (List.mem_of_getElem? (i := 98) (by decide +kernel))) (by decide +kernel)), rfl, uwX7⟩
theorem gX10_86 : q_fp RX10 86 7 6 (.array .int) true := ⟨RX7, TX7, 15, tyX7, rfl, by decide, (q_in (q_t1 (List.mem_of_getElem? (i := 98) (by decide +kernel))) (by decide +kernel)), rfl, uwX7, tyX7_ok, nmX7, rfl, by decide +kernel⟩
theorem fX2_70 : q_fl RX2 70 7 6 := ⟨RX7, TX7, 15, rfl, by decide, (q_in (q_t1 (List.mem_of_getElem? (i := 99) (by decide +kernel))) (by decide +kernel)), rfl, uwX7⟩
theorem gX2_70 : q_fp RX2 70 7 6 (.array .int) true := ⟨RX7, TX7, 15, tyX7, rfl, by decide, (q_in (q_t1 (List.mem_of_getElem? (i := 99) (by decide +kernel))) (by decide +kernel)), rfl, uwX7, tyX7_ok, nmX7, rfl, by decide +kernel⟩
theorem fX11_187 : q_fl RX11 187 7 6 := ⟨RX7, TX7, 15, rfl, by decide, (q_in (q_t1 (List.mem_of_getElem? (i := 100) (by decide +kernel))) (by decide +kernel)), rfl, uwX7⟩
theorem gX11_187 : q_fp RX11 187 7 6 (.array .int) true := ⟨RX7, TX7, 15, tyX7, rfl, by decide, (q_in (q_t1 (List.mem_of_getElem? (i := 100) (by decide +kernel))) (by decide +kernel)), rfl, uwX7, tyX7_ok, nmX7, rfl, by decide +kernel⟩
theorem fX7_29 : q_fl RX7 29 7 7 := ⟨RX7, TX7, 15, rfl, by decide, (q_in (q_t1 (List.mem_of_getElem? (i := 101) (by decide +kernel))) (by decide +kernel)), rfl, uwX7⟩
theorem gX7_29 : q_fp RX7 29 7 7 (.array .int) true := ⟨RX7, TX7, 15, tyX7, rfl, by decide, (q_in (q_t1 (List.mem_of_getElem? (i := 101) (by decide +kernel))) (by decide +kernel)), rfl, uwX7, tyX7_ok, nmX7, rfl, by decide +kernel⟩
theorem fX3_51 : q_fl RX3 51 7 7 := ⟨RX7, TX7, 15, rfl, by decide, (q_in (q_t1 (List.mem_of_getElem? (i := 102) (by decide +kernel))) (by decide +kernel)), rfl, uwX7⟩
theorem gX3_51 : q_fp RX3 51 7 7 (.array .int) true := ⟨RX7, TX7, 15, tyX7, rfl, by decide, (q_in (q_t1 (List.mem_of_getElem? (i := 102) (by decide +kernel))) (by decide +kernel)), rfl, uwX7, tyX7_ok, nmX7, rfl, by decide +kernel⟩
theorem fX1_71 : q_fl RX1 71 7 7 := ⟨RX7, TX7, 15, rfl, by decide, (q_in (q_t1 (List.mem_of_getElem? (i := 103) (by decide +kernel))) (by decide +kernel)), rfl, uwX7⟩
theorem gX1_71 : q_fp RX1 71 7 7 (.array .int) true := ⟨RX7, TX7, 15, tyX7, rfl, by decide, (q_in (q_t1 (List.mem_of_getElem? (i := 103) (by decide +kernel))) (by decide +kernel)), rfl, uwX7, tyX7_ok, nmX7, rfl, by decide +kernel⟩
theorem fX11_156 : q_fl RX11 156 7 7 := ⟨RX7, TX7, 15, rfl, by decide, (q_in (q_t1 (List.mem_of_getElem? (i := 104) (by decide +kernel))) (by decide +kernel)), rfl, uwX7⟩
theorem gX11_156 : q_fp RX11 156 7 7 (.array .int) true := ⟨RX7, TX7, 15, tyX7, rfl, by decide, (q_in (q_t1 (List.mem_of_getElem? (i := 104) (by decide +kernel))) (by decide +kernel)), rfl, uwX7, tyX7_ok, nmX7, rfl, by decide +kernel⟩
theorem fX10_114 : q_fl RX10 114 7 7 := ⟨RX7, TX7, 15, rfl, by decide, (q_in (q_t1 (List.mem_of_getElem? (i := 105) (by decide +kernel))) (by decide +kernel)), rfl, uwX7⟩
theorem gX10_114 : q_fp RX10 114 7 7 (.array .int) true := ⟨RX7, TX7, 15, tyX7, rfl, by decide, (q_in (q_t1 (List.mem_of_getElem? (i := 105) (by decide +kernel))) (by decide +kernel)), rfl, uwX7, tyX7_ok, nmX7, rfl, by decide +kernel⟩
theorem fX7_32 : q_fl RX7 32 7 8 := ⟨RX7, TX7, 15, rfl, by decide, (q_in (q_t1 (List.mem_of_getElem? (i := 106) (by decide +kernel))) (by decide +kernel)), rfl, uwX7⟩
theorem gX7_32 : q_fp RX7 32 7 8 (.array .int) true := ⟨RX7, TX7, 15, tyX7, rfl, by decide, (q_in (q_t1 (List.mem_of_getElem? (i := 106) (by decide +kernel))) (by decide +kernel)), rfl, uwX7, tyX7_ok, nmX7, rfl, by decide +kernel⟩
theorem fX11_190 : q_fl RX11 190 7 8 := ⟨RX7, TX7, 15, rfl, by decide, (q_in (q_t1 (List.mem_of_getElem? (i := 107) (by decide +kernel))) (by decide +kernel)), rfl, uwX7⟩
theorem gX11_190 : q_fp RX11 190 7 8 (.array .int) true := ⟨RX7, TX7, 15, tyX7, rfl, by decide, (q_in (q_t1 (List.mem_of_getElem? (i := 107) (by decide +kernel))) (by decide +kernel)), rfl, uwX7, tyX7_ok, nmX7, rfl, by decide +kernel⟩
theorem fX7_35 : q_fl RX7 35 7 9 := ⟨RX7, TX7, 15, rfl, by decide, (q_in (q_t1 (List.mem_of_getElem? (i := 108) (by decide +kernel))) (by decide +kernel)), rfl, uwX7⟩
theorem gX7_35 : q_fp RX7 35 7 9 (.array .int) true := ⟨RX7, TX7, 15, tyX7, rfl, by decide, (q_in (q_t1 (List.mem_of_getElem? (i := 108) (by decide +kernel))) (by decide +kernel)), rfl, uwX7, tyX7_ok, nmX7, rfl, by decide +kernel⟩
theorem fX1_68 : q_fl RX1 68 7 9 := ⟨RX7, TX7, 15, rfl, by decide, (q_in (q_t1 (List.mem_of_getElem? (i := 109) (by decide +kernel))) (by decide +kernel)), rfl, uwX7⟩
theorem gX1_68 : q_fp RX1 68 7 9 (.array .int) true := ⟨RX7, TX7, 15, tyX7, rfl, by decide, (q_in (q_t1 (List.mem_of_getElem? (i := 109) (by decide +kernel))) (by decide +kernel)), rfl, uwX7, tyX7_ok, nmX7, rfl, by decide +kernel⟩
theorem fX10_77 : q_fl RX10 77 7 9 := ⟨RX7, TX7, 15, rfl, by decide, (q_in (q_t1 (List.mem_of_getElem? (i := 110) (by decide +kernel))) (by decide +kernel)), rfl, uwX7⟩
theorem gX10_77 : q_fp RX10 77 7 9 (.array .int) true := ⟨RX7, TX7, 15, tyX7, rfl, by decide, (q_in (q_t1 (List.mem_of_getElem? (i := 110) (by decide +kernel))) (by decide +kernel)), rfl, uwX7, tyX7_ok, nmX7, rfl, by decide +kernel⟩
theorem fX3_110 : q_fl RX3 110 7 9 := ⟨RX7, TX7, 15, rfl, by decide, (q_in (q_t1 (List.mem_of_getElem? (i := 111) (by decide +kernel))) (by decide +kernel)), rfl, uwX7⟩
theorem gX3_110 : q_fp RX3 110 7 9 (.array .int) true := ⟨RX7, TX7, 15, tyX7, rfl, by decide, (q_in (q_t1 (List.mem_of_getElem? (i := 111) (by decide +kernel))) (by decide +kernel)), rfl, uwX7, tyX7_ok, nmX7, rfl, by decide +kernel⟩
theorem fX11_193 : q_fl RX11 193 7 9 := ⟨RX7, TX7, 15, rfl, by decide, (q_in (q_t1 (List.mem_of_getElem? (i := 112) (by decide +kernel))) (by decide +kernel)), rfl, uwX7⟩
theorem gX11_193 : q_fp RX11 193 7 9 (.array .int) true := ⟨RX7, TX7, 15, tyX7, rfl, by decide, (q_in (q_t1 (List.mem_of_getElem? (i := 112) (by decide +kernel))) (by decide +kernel)), rfl, uwX7, tyX7_ok, nmX7, rfl, by decide +kernel⟩
theorem fX7_38 : q_fl RX7 38 7 10 := ⟨RX7, TX7, 15, rfl, by decide, (q_in (q_t1 (List.mem_of_getElem? (i := 113) (by decide +kernel))) (by decide +kernel)), rfl, uwX7⟩
theorem gX7_38 : q_fp RX7 38 7 10 (.array (.array .int)) true := ⟨RX7, TX7, 15, tyX7, rfl, by decide, (q_in (q_t1 (List.mem_of_getElem? (i := 113) (by decide +kernel))) (by decide +kernel)), rfl, uwX7, tyX7_ok, nmX7, rfl, by decide +kernel⟩
theorem fX11_166 : q_fl RX11 166 7 10 := ⟨RX7, TX7, 15, rfl, by decide, (q_in (q_t1 (List.mem_of_getElem? (i := 114) (by decide +kernel))) (by decide +kernel)), rfl, uwX7⟩
theorem gX11_166 : q_fp RX11 166 7 10 (.array (.array .int)) true := ⟨RX7, TX7, 15, tyX7, rfl, by decide, (q_in (q_t1 (List.mem_of_getElem? (i := 114) (by decide +kernel))) (by decide +kernel)), rfl, uwX7, tyX7_ok, nmX7, rfl, by decide +kernel⟩
theorem fX7_41 : q_fl RX7 41 7 11 := ⟨RX7, TX7, 15, rfl, by decide, (q_in (q_t1 (List.mem_of_getElem? (i := 115) (by decide +kernel))) (by decide +kernel)), rfl, uwX7⟩
theorem gX7_41 : q_fp RX7 41 7 11 (.array .int) true := ⟨RX7, TX7, 15, tyX7, rfl, by decide, (q_in (q_t1 (List.mem_of_getElem? (i := 115) (by decide +kernel))) (by decide +kernel)), rfl, uwX7, tyX7_ok, nmX7, rfl, by decide +kernel⟩
theorem fX11_171 : q_fl RX11 171 7 11 := ⟨RX7, TX7, 15, rfl, by decide, (q_in (q_t1 (List.mem_of_getElem? (i := 116) (by decide +kernel))) (by decide +kernel)), rfl, uwX7⟩
theorem gX11_171 : q_fp RX11 171 7 11 (.array .int) true := ⟨RX7, TX7, 15, tyX7, rfl, by decide, (q_in (q_t1 (List.mem_of_getElem? (i := 116) (by decide +kernel))) (by decide +kernel)), rfl, uwX7, tyX7_ok, nmX7, rfl, by decide +kernel⟩
theorem fX7_44 : q_fl RX7 44 7 12 := ⟨RX7, TX7, 15, rfl, by decide, (q_in (q_t1 (List.mem_of_getElem? (i := 117) (by decide +kernel))) (by decide +kernel)), rfl, uwX7⟩
theorem gX7_44 : q_fp RX7 44 7 12 (.array (.array .int)) true := ⟨RX7, TX7, 15, tyX7, rfl, by decide, (q_in (q_t1 (List.mem_of_getElem? (i := 117) (by decide +kernel))) (by decide +kernel)), rfl, uwX7, tyX7_ok, nmX7, rfl, by decide +kernel⟩
theorem fX7_47 : q_fl RX7 47 7 13 := ⟨RX7, TX7, 15, rfl, by decide, (q_in (q_t1 (List.mem_of_getElem? (i := 118) (by decide +kernel))) (by decide +kernel)), rfl, uwX7⟩
theorem gX7_47 : q_fp RX7 47 7 13 (.array (.array .int)) true := ⟨RX7, TX7, 15, tyX7, rfl, by decide, (q_in (q_t1 (List.mem_of_getElem? (i := 118) (by decide +kernel))) (by decide +kernel)), rfl, uwX7, tyX7_ok, nmX7, rfl, by decide +kernel⟩
theorem fX7_53 : q_fl RX7 53 7 14 := ⟨RX7, TX7, 15, rfl, by decide, (q_in (q_t1 (List.mem_of_getElem? (i := 119) (by decide +kernel))) (by decide +kernel)), rfl, uwX7⟩
theorem gX7_53 : q_fp RX7 53 7 14 (.object "SetupJobShop$Orders") true := ⟨RX7, TX7, 15, tyX7, rfl, by decide, (q_in (q_t1 (List.mem_of_getElem? (i := 119) (by decide +kernel))) (by decide +kernel)), rfl, uwX7, tyX7_ok, nmX7, rfl, by decide +kernel⟩
theorem fX6_32 : q_fl RX6 32 7 14 := ⟨RX7, TX7, 15, rfl, by decide, (q_in (q_t1 (List.mem_of_getElem? (i := 120) (by decide +kernel))) (by decide +kernel)), rfl, uwX7⟩
theorem gX6_32 : q_fp RX6 32 7 14 (.object "SetupJobShop$Orders") true := ⟨RX7, TX7, 15, tyX7, rfl, by decide, (q_in (q_t1 (List.mem_of_getElem? (i := 120) (by decide +kernel))) (by decide +kernel)), rfl, uwX7, tyX7_ok, nmX7, rfl, by decide +kernel⟩
theorem fX8_54 : q_fl RX8 54 7 14 := ⟨RX7, TX7, 15, rfl, by decide, (q_in (q_t1 (List.mem_of_getElem? (i := 121) (by decide +kernel))) (by decide +kernel)), rfl, uwX7⟩
theorem gX8_54 : q_fp RX8 54 7 14 (.object "SetupJobShop$Orders") true := ⟨RX7, TX7, 15, tyX7, rfl, by decide, (q_in (q_t1 (List.mem_of_getElem? (i := 121) (by decide +kernel))) (by decide +kernel)), rfl, uwX7, tyX7_ok, nmX7, rfl, by decide +kernel⟩
theorem fX3_35 : q_fl RX3 35 7 14 := ⟨RX7, TX7, 15, rfl, by decide, (q_in (q_t1 (List.mem_of_getElem? (i := 122) (by decide +kernel))) (by decide +kernel)), rfl, uwX7⟩
theorem gX3_35 : q_fp RX3 35 7 14 (.object "SetupJobShop$Orders") true := ⟨RX7, TX7, 15, tyX7, rfl, by decide, (q_in (q_t1 (List.mem_of_getElem? (i := 122) (by decide +kernel))) (by decide +kernel)), rfl, uwX7, tyX7_ok, nmX7, rfl, by decide +kernel⟩
theorem fX0_39 : q_fl RX0 39 7 14 := ⟨RX7, TX7, 15, rfl, by decide, (q_in (q_t1 (List.mem_of_getElem? (i := 123) (by decide +kernel))) (by decide +kernel)), rfl, uwX7⟩
theorem gX0_39 : q_fp RX0 39 7 14 (.object "SetupJobShop$Orders") true := ⟨RX7, TX7, 15, tyX7, rfl, by decide, (q_in (q_t1 (List.mem_of_getElem? (i := 123) (by decide +kernel))) (by decide +kernel)), rfl, uwX7, tyX7_ok, nmX7, rfl, by decide +kernel⟩
theorem fX10_89 : q_fl RX10 89 7 14 := ⟨RX7, TX7, 15, rfl, by decide, (q_in (q_t1 (List.mem_of_getElem? (i := 124) (by decide +kernel))) (by decide +kernel)), rfl, uwX7⟩
theorem gX10_89 : q_fp RX10 89 7 14 (.object "SetupJobShop$Orders") true := ⟨RX7, TX7, 15, tyX7, rfl, by decide, (q_in (q_t1 (List.mem_of_getElem? (i := 124) (by decide +kernel))) (by decide +kernel)), rfl, uwX7, tyX7_ok, nmX7, rfl, by decide +kernel⟩
theorem fX11_196 : q_fl RX11 196 7 14 := ⟨RX7, TX7, 15, rfl, by decide, (q_in (q_t1 (List.mem_of_getElem? (i := 125) (by decide +kernel))) (by decide +kernel)), rfl, uwX7⟩
theorem gX11_196 : q_fp RX11 196 7 14 (.object "SetupJobShop$Orders") true := ⟨RX7, TX7, 15, tyX7, rfl, by decide, (q_in (q_t1 (List.mem_of_getElem? (i := 125) (by decide +kernel))) (by decide +kernel)), rfl, uwX7, tyX7_ok, nmX7, rfl, by decide +kernel⟩
theorem fX10_9 : q_fl RX10 9 10 0 := ⟨RX10, TX10, 11, rfl, by decide, (q_in (q_t1 (List.mem_of_getElem? (i := 163) (by decide +kernel))) (by decide +kernel)), rfl, uwX10⟩
theorem gX10_9 : q_fp RX10 9 10 0 (.array .int) true := ⟨RX10, TX10, 11, tyX10, rfl, by decide, (q_in (q_t1 (List.mem_of_getElem? (i := 163) (by decide +kernel))) (by decide +kernel)), rfl, uwX10, tyX10_ok, nmX10, rfl, by decide +kernel⟩
theorem fX2_53 : q_fl RX2 53 10 0 := ⟨RX10, TX10, 11, rfl, by decide, (q_in (q_t1 (List.mem_of_getElem? (i := 164) (by decide +kernel))) (by decide +kernel)), rfl, uwX10⟩
theorem gX2_53 : q_fp RX2 53 10 0 (.array .int) true := ⟨RX10, TX10, 11, tyX10, rfl, by decide, (q_in (q_t1 (List.mem_of_getElem? (i := 164) (by decide +kernel))) (by decide +kernel)), rfl, uwX10, tyX10_ok, nmX10, rfl, by decide +kernel⟩
theorem fX11_225 : q_fl RX11 225 10 0 := ⟨RX10, TX10, 11, rfl, by decide, (q_in (q_t1 (List.mem_of_getElem? (i := 165) (by decide +kernel))) (by decide +kernel)), rfl, uwX10⟩
theorem gX11_225 : q_fp RX11 225 10 0 (.array .int) true := ⟨RX10, TX10, 11, tyX10, rfl, by decide, (q_in (q_t1 (List.mem_of_getElem? (i := 165) (by decide +kernel))) (by decide +kernel)), rfl, uwX10, tyX10_ok, nmX10, rfl, by decide +kernel⟩
theorem fX10_15 : q_fl RX10 15 10 1 := ⟨RX10, TX10, 11, rfl, by decide, (q_in (q_t1 (List.mem_of_getElem? (i := 166) (by decide +kernel))) (by decide +kernel)), rfl, uwX10⟩
theorem gX10_15 : q_fp RX10 15 10 1 (.array .int) true := ⟨RX10, TX10, 11, tyX10, rfl, by decide, (q_in (q_t1 (List.mem_of_getElem? (i := 166) (by decide +kernel))) (by decide +kernel)), rfl, uwX10, tyX10_ok, nmX10, rfl, by decide +kernel⟩
theorem fX3_64 : q_fl RX3 64 10 1 := ⟨RX10, TX10, 11, rfl, by decide, (q_in (q_t1 (List.mem_of_getElem? (i := 167) (by decide +kernel))) (by decide +kernel)), rfl, uwX10⟩
theorem gX3_64 : q_fp RX3 64 10 1 (.array .int) true := ⟨RX10, TX10, 11, tyX10, rfl, by decide, (q_in (q_t1 (List.mem_of_getElem? (i := 167) (by decide +kernel))) (by decide +kernel)), rfl, uwX10, tyX10_ok, nmX10, rfl, by decide +kernel⟩
theorem fX11_228 : q_fl RX11 228 10 1 := ⟨RX10, TX10, 11, rfl, by decide, (q_in (q_t1 (List.mem_of_getElem? (i := 168) (by decide +kernel))) (by decide +kernel)), rfl, uwX10⟩
theorem gX11_228 : q_fp RX11 228 10 1 (.array .int) true := ⟨RX10, TX10, 11, tyX10, rfl, by decide, (q_in (q_t1 (List.mem_of_getElem? (i := 168) (by decide +kernel))) (by decide +kernel)), rfl, uwX10, tyX10_ok, nmX10, rfl, by decide +kernel⟩
theorem fX10_18 : q_fl RX10 18 10 2 := ⟨RX10, TX10, 11, rfl, by decide, (q_in (q_t1 (List.mem_of_getElem? (i := 169) (by decide +kernel))) (by decide +kernel)), rfl, uwX10⟩
theorem gX10_18 : q_fp RX10 18 10 2 (.array .int) true := ⟨RX10, TX10, 11, tyX10, rfl, by decide, (q_in (q_t1 (List.mem_of_getElem? (i := 169) (by decide +kernel))) (by decide +kernel)), rfl, uwX10, tyX10_ok, nmX10, rfl, by decide +kernel⟩
theorem fX3_69 : q_fl RX3 69 10 2 := ⟨RX10, TX10, 11, rfl, by decide, (q_in (q_t1 (List.mem_of_getElem? (i := 170) (by decide +kernel))) (by decide +kernel)), rfl, uwX10⟩
theorem gX3_69 : q_fp RX3 69 10 2 (.array .int) true := ⟨RX10, TX10, 11, tyX10, rfl, by decide, (q_in (q_t1 (List.mem_of_getElem? (i := 170) (by decide +kernel))) (by decide +kernel)), rfl, uwX10, tyX10_ok, nmX10, rfl, by decide +kernel⟩
theorem fX2_48 : q_fl RX2 48 10 2 := ⟨RX10, TX10, 11, rfl, by decide, (q_in (q_t1 (List.mem_of_getElem? (i := 171) (by decide +kernel))) (by decide +kernel)), rfl, uwX10⟩
theorem gX2_48 : q_fp RX2 48 10 2 (.array .int) true := ⟨RX10, TX10, 11, tyX10, rfl, by decide, (q_in (q_t1 (List.mem_of_getElem? (i := 171) (by decide +kernel))) (by decide +kernel)), rfl, uwX10, tyX10_ok, nmX10, rfl, by decide +kernel⟩
theorem fX11_231 : q_fl RX11 231 10 2 := ⟨RX10, TX10, 11, rfl, by decide, (q_in (q_t1 (List.mem_of_getElem? (i := 172) (by decide +kernel))) (by decide +kernel)), rfl, uwX10⟩
theorem gX11_231 : q_fp RX11 231 10 2 (.array .int) true := ⟨RX10, TX10, 11, tyX10, rfl, by decide, (q_in (q_t1 (List.mem_of_getElem? (i := 172) (by decide +kernel))) (by decide +kernel)), rfl, uwX10, tyX10_ok, nmX10, rfl, by decide +kernel⟩
theorem fX10_21 : q_fl RX10 21 10 3 := ⟨RX10, TX10, 11, rfl, by decide, (q_in (q_t1 (List.mem_of_getElem? (i := 173) (by decide +kernel))) (by decide +kernel)), rfl, uwX10⟩
theorem gX10_21 : q_fp RX10 21 10 3 (.array .int) true := ⟨RX10, TX10, 11, tyX10, rfl, by decide, (q_in (q_t1 (List.mem_of_getElem? (i := 173) (by decide +kernel))) (by decide +kernel)), rfl, uwX10, tyX10_ok, nmX10, rfl, by decide +kernel⟩
theorem fX2_60 : q_fl RX2 60 10 3 := ⟨RX10, TX10, 11, rfl, by decide, (q_in (q_t1 (List.mem_of_getElem? (i := 174) (by decide +kernel))) (by decide +kernel)), rfl, uwX10⟩
theorem gX2_60 : q_fp RX2 60 10 3 (.array .int) true := ⟨RX10, TX10, 11, tyX10, rfl, by decide, (q_in (q_t1 (List.mem_of_getElem? (i := 174) (by decide +kernel))) (by decide +kernel)), rfl, uwX10, tyX10_ok, nmX10, rfl, by decide +kernel⟩
theorem fX10_24 : q_fl RX10 24 10 4 := ⟨RX10, TX10, 11, rfl, by decide, (q_in (q_t1 (List.mem_of_getElem? (i := 175) (by decide +kernel))) (by decide +kernel)), rfl, uwX10⟩
theorem gX10_24 : q_fp RX10 24 10 4 (.array .boolean) true := ⟨RX10, TX10, 11, tyX10, rfl, by decide, (q_in (q_t1 (List.mem_of_getElem? (i := 175) (by decide +kernel))) (by decide +kernel)), rfl, uwX10, tyX10_ok, nmX10, rfl, by decide +kernel⟩
theorem fX6_18 : q_fl RX6 18 10 4 := ⟨RX10, TX10, 11, rfl, by decide, (q_in (q_t1 (List.mem_of_getElem? (i := 176) (by decide +kernel))) (by decide +kernel)), rfl, uwX10⟩
theorem gX6_18 : q_fp RX6 18 10 4 (.array .boolean) true := ⟨RX10, TX10, 11, tyX10, rfl, by decide, (q_in (q_t1 (List.mem_of_getElem? (i := 176) (by decide +kernel))) (by decide +kernel)), rfl, uwX10, tyX10_ok, nmX10, rfl, by decide +kernel⟩
theorem fX0_25 : q_fl RX0 25 10 4 := ⟨RX10, TX10, 11, rfl, by decide, (q_in (q_t1 (List.mem_of_getElem? (i := 177) (by decide +kernel))) (by decide +kernel)), rfl, uwX10⟩
theorem gX0_25 : q_fp RX0 25 10 4 (.array .boolean) true := ⟨RX10, TX10, 11, tyX10, rfl, by decide, (q_in (q_t1 (List.mem_of_getElem? (i := 177) (by decide +kernel))) (by decide +kernel)), rfl, uwX10, tyX10_ok, nmX10, rfl, by decide +kernel⟩
theorem fX10_41 : q_fl RX10 41 10 5 := ⟨RX10, TX10, 11, rfl, by decide, (q_in (q_t1 (List.mem_of_getElem? (i := 178) (by decide +kernel))) (by decide +kernel)), rfl, uwX10⟩
theorem gX10_41 : q_fp RX10 41 10 5 .int false := ⟨RX10, TX10, 11, tyX10, rfl, by decide, (q_in (q_t1 (List.mem_of_getElem? (i := 178) (by decide +kernel))) (by decide +kernel)), rfl, uwX10, tyX10_ok, nmX10, rfl, by decide +kernel⟩
theorem fX11_412 : q_fl RX11 412 10 5 := ⟨RX10, TX10, 11, rfl, by decide, (q_in (q_t1 (List.mem_of_getElem? (i := 179) (by decide +kernel))) (by decide +kernel)), rfl, uwX10⟩
theorem gX11_412 : q_fp RX11 412 10 5 .int false := ⟨RX10, TX10, 11, tyX10, rfl, by decide, (q_in (q_t1 (List.mem_of_getElem? (i := 179) (by decide +kernel))) (by decide +kernel)), rfl, uwX10, tyX10_ok, nmX10, rfl, by decide +kernel⟩
theorem fX6_28 : q_fl RX6 28 10 6 := ⟨RX10, TX10, 11, rfl, by decide, (q_in (q_t1 (List.mem_of_getElem? (i := 180) (by decide +kernel))) (by decide +kernel)), rfl, uwX10⟩
theorem gX6_28 : q_fp RX6 28 10 6 .int false := ⟨RX10, TX10, 11, tyX10, rfl, by decide, (q_in (q_t1 (List.mem_of_getElem? (i := 180) (by decide +kernel))) (by decide +kernel)), rfl, uwX10, tyX10_ok, nmX10, rfl, by decide +kernel⟩
theorem fX8_48 : q_fl RX8 48 10 6 := ⟨RX10, TX10, 11, rfl, by decide, (q_in (q_t1 (List.mem_of_getElem? (i := 181) (by decide +kernel))) (by decide +kernel)), rfl, uwX10⟩
theorem gX8_48 : q_fp RX8 48 10 6 .int false := ⟨RX10, TX10, 11, tyX10, rfl, by decide, (q_in (q_t1 (List.mem_of_getElem? (i := 181) (by decide +kernel))) (by decide +kernel)), rfl, uwX10, tyX10_ok, nmX10, rfl, by decide +kernel⟩
theorem fX10_83 : q_fl RX10 83 10 6 := ⟨RX10, TX10, 11, rfl, by decide, (q_in (q_t1 (List.mem_of_getElem? (i := 182) (by decide +kernel))) (by decide +kernel)), rfl, uwX10⟩
theorem gX10_83 : q_fp RX10 83 10 6 .int false := ⟨RX10, TX10, 11, tyX10, rfl, by decide, (q_in (q_t1 (List.mem_of_getElem? (i := 182) (by decide +kernel))) (by decide +kernel)), rfl, uwX10, tyX10_ok, nmX10, rfl, by decide +kernel⟩
theorem fX11_242 : q_fl RX11 242 10 6 := ⟨RX10, TX10, 11, rfl, by decide, (q_in (q_t1 (List.mem_of_getElem? (i := 183) (by decide +kernel))) (by decide +kernel)), rfl, uwX10⟩
theorem gX11_242 : q_fp RX11 242 10 6 .int false := ⟨RX10, TX10, 11, tyX10, rfl, by decide, (q_in (q_t1 (List.mem_of_getElem? (i := 183) (by decide +kernel))) (by decide +kernel)), rfl, uwX10, tyX10_ok, nmX10, rfl, by decide +kernel⟩
theorem fX10_28 : q_fl RX10 28 10 7 := ⟨RX10, TX10, 11, rfl, by decide, (q_in (q_t1 (List.mem_of_getElem? (i := 184) (by decide +kernel))) (by decide +kernel)), rfl, uwX10⟩
theorem gX10_28 : q_fp RX10 28 10 7 (.array .int) true := ⟨RX10, TX10, 11, tyX10, rfl, by decide, (q_in (q_t1 (List.mem_of_getElem? (i := 184) (by decide +kernel))) (by decide +kernel)), rfl, uwX10, tyX10_ok, nmX10, rfl, by decide +kernel⟩
theorem fX10_31 : q_fl RX10 31 10 8 := ⟨RX10, TX10, 11, rfl, by decide, (q_in (q_t1 (List.mem_of_getElem? (i := 185) (by decide +kernel))) (by decide +kernel)), rfl, uwX10⟩
theorem gX10_31 : q_fp RX10 31 10 8 (.array .int) true := ⟨RX10, TX10, 11, tyX10, rfl, by decide, (q_in (q_t1 (List.mem_of_getElem? (i := 185) (by decide +kernel))) (by decide +kernel)), rfl, uwX10, tyX10_ok, nmX10, rfl, by decide +kernel⟩
theorem fX10_34 : q_fl RX10 34 10 9 := ⟨RX10, TX10, 11, rfl, by decide, (q_in (q_t1 (List.mem_of_getElem? (i := 186) (by decide +kernel))) (by decide +kernel)), rfl, uwX10⟩
theorem gX10_34 : q_fp RX10 34 10 9 .int false := ⟨RX10, TX10, 11, tyX10, rfl, by decide, (q_in (q_t1 (List.mem_of_getElem? (i := 186) (by decide +kernel))) (by decide +kernel)), rfl, uwX10, tyX10_ok, nmX10, rfl, by decide +kernel⟩
theorem fX10_67 : q_fl RX10 67 10 10 := ⟨RX10, TX10, 11, rfl, by decide, (q_in (q_t1 (List.mem_of_getElem? (i := 187) (by decide +kernel))) (by decide +kernel)), rfl, uwX10⟩
theorem gX10_67 : q_fp RX10 67 10 10 .int false := ⟨RX10, TX10, 11, tyX10, rfl, by decide, (q_in (q_t1 (List.mem_of_getElem? (i := 187) (by decide +kernel))) (by decide +kernel)), rfl, uwX10, tyX10_ok, nmX10, rfl, by decide +kernel⟩
theorem fX2_32 : q_fl RX2 32 2 0 := ⟨RX2, TX2, 5, rfl, by decide, (q_in (q_t1 (List.mem_of_getElem? (i := 218) (by decide +kernel))) (by decide +kernel)), rfl, uwX2⟩
theorem gX2_32 : q_fp RX2 32 2 0 .int false := ⟨RX2, TX2, 5, tyX2, rfl, by decide, (q_in (q_t1 (List.mem_of_getElem? (i := 218) (by decide +kernel))) (by decide +kernel)), rfl, uwX2, tyX2_ok, nmX2, rfl, by decide +kernel⟩
theorem fX11_272 : q_fl RX11 272 2 0 := ⟨RX2, TX2, 5, rfl, by decide, (q_in (q_t1 (List.mem_of_getElem? (i := 219) (by decide +kernel))) (by decide +kernel)), rfl, uwX2⟩
theorem gX11_272 : q_fp RX11 272 2 0 .int false := ⟨RX2, TX2, 5, tyX2, rfl, by decide, (q_in (q_t1 (List.mem_of_getElem? (i := 219) (by decide +kernel))) (by decide +kernel)), rfl, uwX2, tyX2_ok, nmX2, rfl, by decide +kernel⟩
theorem fX2_9 : q_fl RX2 9 2 1 := ⟨RX2, TX2, 5, rfl, by decide, (q_in (q_t1 (List.mem_of_getElem? (i := 220) (by decide +kernel))) (by decide +kernel)), rfl, uwX2⟩
theorem gX2_9 : q_fp RX2 9 2 1 (.array .int) true := ⟨RX2, TX2, 5, tyX2, rfl, by decide, (q_in (q_t1 (List.mem_of_getElem? (i := 220) (by decide +kernel))) (by decide +kernel)), rfl, uwX2, tyX2_ok, nmX2, rfl, by decide +kernel⟩
theorem fX11_277 : q_fl RX11 277 2 1 := ⟨RX2, TX2, 5, rfl, by decide, (q_in (q_t1 (List.mem_of_getElem? (i := 221) (by decide +kernel))) (by decide +kernel)), rfl, uwX2⟩
theorem gX11_277 : q_fp RX11 277 2 1 (.array .int) true := ⟨RX2, TX2, 5, tyX2, rfl, by decide, (q_in (q_t1 (List.mem_of_getElem? (i := 221) (by decide +kernel))) (by decide +kernel)), rfl, uwX2, tyX2_ok, nmX2, rfl, by decide +kernel⟩
theorem fX2_67 : q_fl RX2 67 2 2 := ⟨RX2, TX2, 5, rfl, by decide, (q_in (q_t1 (List.mem_of_getElem? (i := 222) (by decide +kernel))) (by decide +kernel)), rfl, uwX2⟩
theorem gX2_67 : q_fp RX2 67 2 2 .int false := ⟨RX2, TX2, 5, tyX2, rfl, by decide, (q_in (q_t1 (List.mem_of_getElem? (i := 222) (by decide +kernel))) (by decide +kernel)), rfl, uwX2, tyX2_ok, nmX2, rfl, by decide +kernel⟩
theorem fX11_279 : q_fl RX11 279 2 2 := ⟨RX2, TX2, 5, rfl, by decide, (q_in (q_t1 (List.mem_of_getElem? (i := 223) (by decide +kernel))) (by decide +kernel)), rfl, uwX2⟩
theorem gX11_279 : q_fp RX11 279 2 2 .int false := ⟨RX2, TX2, 5, tyX2, rfl, by decide, (q_in (q_t1 (List.mem_of_getElem? (i := 223) (by decide +kernel))) (by decide +kernel)), rfl, uwX2, tyX2_ok, nmX2, rfl, by decide +kernel⟩
theorem fX2_15 : q_fl RX2 15 2 3 := ⟨RX2, TX2, 5, rfl, by decide, (q_in (q_t1 (List.mem_of_getElem? (i := 224) (by decide +kernel))) (by decide +kernel)), rfl, uwX2⟩
theorem gX2_15 : q_fp RX2 15 2 3 (.array .int) true := ⟨RX2, TX2, 5, tyX2, rfl, by decide, (q_in (q_t1 (List.mem_of_getElem? (i := 224) (by decide +kernel))) (by decide +kernel)), rfl, uwX2, tyX2_ok, nmX2, rfl, by decide +kernel⟩
theorem fX11_284 : q_fl RX11 284 2 3 := ⟨RX2, TX2, 5, rfl, by decide, (q_in (q_t1 (List.mem_of_getElem? (i := 225) (by decide +kernel))) (by decide +kernel)), rfl, uwX2⟩
theorem gX11_284 : q_fp RX11 284 2 3 (.array .int) true := ⟨RX2, TX2, 5, tyX2, rfl, by decide, (q_in (q_t1 (List.mem_of_getElem? (i := 225) (by decide +kernel))) (by decide +kernel)), rfl, uwX2, tyX2_ok, nmX2, rfl, by decide +kernel⟩
theorem fX2_18 : q_fl RX2 18 2 4 := ⟨RX2, TX2, 5, rfl, by decide, (q_in (q_t1 (List.mem_of_getElem? (i := 226) (by decide +kernel))) (by decide +kernel)), rfl, uwX2⟩
theorem gX2_18 : q_fp RX2 18 2 4 (.array .int) true := ⟨RX2, TX2, 5, tyX2, rfl, by decide, (q_in (q_t1 (List.mem_of_getElem? (i := 226) (by decide +kernel))) (by decide +kernel)), rfl, uwX2, tyX2_ok, nmX2, rfl, by decide +kernel⟩
theorem fX3_9 : q_fl RX3 9 3 0 := ⟨RX3, TX3, 4, rfl, by decide, (q_in (q_t2 (List.mem_of_getElem? (i := 4) (by decide +kernel))) (by decide +kernel)), rfl, uwX3⟩
theorem gX3_9 : q_fp RX3 9 3 0 (.array .int) true := ⟨RX3, TX3, 4, tyX3, rfl, by decide, (q_in (q_t2 (List.mem_of_getElem? (i := 4) (by decide +kernel))) (by decide +kernel)), rfl, uwX3, tyX3_ok, nmX3, rfl, by decide +kernel⟩
theorem fX3_15 : q_fl RX3 15 3 1 := ⟨RX3, TX3, 4, rfl, by decide, (q_in (q_t2 (List.mem_of_getElem? (i := 5) (by decide +kernel))) (by decide +kernel)), rfl, uwX3⟩
theorem gX3_15 : q_fp RX3 15 3 1 (.array .int) true := ⟨RX3, TX3, 4, tyX3, rfl, by decide, (q_in (q_t2 (List.mem_of_getElem? (i := 5) (by decide +kernel))) (by decide +kernel)), rfl, uwX3, tyX3_ok, nmX3, rfl, by decide +kernel⟩
theorem fX3_32 : q_fl RX3 32 3 2 := ⟨RX3, TX3, 4, rfl, by decide, (q_in (q_t2 (List.mem_of_getElem? (i := 6) (by decide +kernel))) (by decide +kernel)), rfl, uwX3⟩
theorem gX3_32 : q_fp RX3 32 3 2 .int false := ⟨RX3, TX3, 4, tyX3, rfl, by decide, (q_in (q_t2 (List.mem_of_getElem? (i := 6) (by decide +kernel))) (by decide +kernel)), rfl, uwX3, tyX3_ok, nmX3, rfl, by decide +kernel⟩
theorem fX3_48 : q_fl RX3 48 3 3 := ⟨RX3, TX3, 4, rfl, by decide, (q_in (q_t2 (List.mem_of_getElem? (i := 7) (by decide +kernel))) (by decide +kernel)), rfl, uwX3⟩
theorem gX3_48 : q_fp RX3 48 3 3 .int false := ⟨RX3, TX3, 4, tyX3, rfl, by decide, (q_in (q_t2 (List.mem_of_getElem? (i := 7) (by decide +kernel))) (by decide +kernel)), rfl, uwX3, tyX3_ok, nmX3, rfl, by decide +kernel⟩
theorem fX6_55 : q_fl RX6 55 6 0 := ⟨RX6, TX6, 3, rfl, by decide, (q_in (q_t2 (List.mem_of_getElem? (i := 23) (by decide +kernel))) (by decide +kernel)), rfl, uwX6⟩
theorem gX6_55 : q_fp RX6 55 6 0 .int false := ⟨RX6, TX6, 3, tyX6, rfl, by decide, (q_in (q_t2 (List.mem_of_getElem? (i := 23) (by decide +kernel))) (by decide +kernel)), rfl, uwX6, tyX6_ok, nmX6, rfl, by decide +kernel⟩
theorem fX0_53 : q_fl RX0 53 6 0 := ⟨RX6, TX6, 3, rfl, by decide, (q_in (q_t2 (List.mem_of_getElem? (i := 24) (by decide +kernel))) (by decide +kernel)), rfl, uwX6⟩
theorem gX0_53 : q_fp RX0 53 6 0 .int false := ⟨RX6, TX6, 3, tyX6, rfl, by decide, (q_in (q_t2 (List.mem_of_getElem? (i := 24) (by decide +kernel))) (by decide +kernel)), rfl, uwX6, tyX6_ok, nmX6, rfl, by decide +kernel⟩
theorem fX11_314 : q_fl RX11 314 6 0 := ⟨RX6, TX6, 3, rfl, by decide, (q_in (q_t2 (List.mem_of_getElem? (i := 25) (by decide +kernel))) (by decide +kernel)), rfl, uwX6⟩
theorem gX11_314 : q_fp RX11 314 6 0 .int false := ⟨RX6, TX6, 3, tyX6, rfl, by decide, (q_in (q_t2 (List.mem_of_getElem? (i := 25) (by decide +kernel))) (by decide +kernel)), rfl, uwX6, tyX6_ok, nmX6, rfl, by decide +kernel⟩
theorem fX6_9 : q_fl RX6 9 6 1 := ⟨RX6, TX6, 3, rfl, by decide, (q_in (q_t2 (List.mem_of_getElem? (i := 26) (by decide +kernel))) (by decide +kernel)), rfl, uwX6⟩
theorem gX6_9 : q_fp RX6 9 6 1 (.array .int) true := ⟨RX6, TX6, 3, tyX6, rfl, by decide, (q_in (q_t2 (List.mem_of_getElem? (i := 26) (by decide +kernel))) (by decide +kernel)), rfl, uwX6, tyX6_ok, nmX6, rfl, by decide +kernel⟩
theorem fX0_56 : q_fl RX0 56 6 1 := ⟨RX6, TX6, 3, rfl, by decide, (q_in (q_t2 (List.mem_of_getElem? (i := 27) (by decide +kernel))) (by decide +kernel)), rfl, uwX6⟩
theorem gX0_56 : q_fp RX0 56 6 1 (.array .int) true := ⟨RX6, TX6, 3, tyX6, rfl, by decide, (q_in (q_t2 (List.mem_of_getElem? (i := 27) (by decide +kernel))) (by decide +kernel)), rfl, uwX6, tyX6_ok, nmX6, rfl, by decide +kernel⟩
theorem fX6_15 : q_fl RX6 15 6 2 := ⟨RX6, TX6, 3, rfl, by decide, (q_in (q_t2 (List.mem_of_getElem? (i := 28) (by decide +kernel))) (by decide +kernel)), rfl, uwX6⟩
theorem gX6_15 : q_fp RX6 15 6 2 (.array .int) true := ⟨RX6, TX6, 3, tyX6, rfl, by decide, (q_in (q_t2 (List.mem_of_getElem? (i := 28) (by decide +kernel))) (by decide +kernel)), rfl, uwX6, tyX6_ok, nmX6, rfl, by decide +kernel⟩
theorem fX0_49 : q_fl RX0 49 0 0 := ⟨RX0, TX0, 4, rfl, by decide, (q_in (q_t2 (List.mem_of_getElem? (i := 44) (by decide +kernel))) (by decide +kernel)), rfl, uwX0⟩
theorem gX0_49 : q_fp RX0 49 0 0 .int false := ⟨RX0, TX0, 4, tyX0, rfl, by decide, (q_in (q_t2 (List.mem_of_getElem? (i := 44) (by decide +kernel))) (by decide +kernel)), rfl, uwX0, tyX0_ok, nmX0, rfl, by decide +kernel⟩
theorem fX11_325 : q_fl RX11 325 0 0 := ⟨RX0, TX0, 4, rfl, by decide, (q_in (q_t2 (List.mem_of_getElem? (i := 45) (by decide +kernel))) (by decide +kernel)), rfl, uwX0⟩
theorem gX11_325 : q_fp RX11 325 0 0 .int false := ⟨RX0, TX0, 4, tyX0, rfl, by decide, (q_in (q_t2 (List.mem_of_getElem? (i := 45) (by decide +kernel))) (by decide +kernel)), rfl, uwX0, tyX0_ok, nmX0, rfl, by decide +kernel⟩
theorem fX0_9 : q_fl RX0 9 0 1 := ⟨RX0, TX0, 4, rfl, by decide, (q_in (q_t2 (List.mem_of_getElem? (i := 46) (by decide +kernel))) (by decide +kernel)), rfl, uwX0⟩
theorem gX0_9 : q_fp RX0 9 0 1 (.array .int) true := ⟨RX0, TX0, 4, tyX0, rfl, by decide, (q_in (q_t2 (List.mem_of_getElem? (i := 46) (by decide +kernel))) (by decide +kernel)), rfl, uwX0, tyX0_ok, nmX0, rfl, by decide +kernel⟩
theorem fX11_330 : q_fl RX11 330 0 1 := ⟨RX0, TX0, 4, rfl, by decide, (q_in (q_t2 (List.mem_of_getElem? (i := 47) (by decide +kernel))) (by decide +kernel)), rfl, uwX0⟩
theorem gX11_330 : q_fp RX11 330 0 1 (.array .int) true := ⟨RX0, TX0, 4, tyX0, rfl, by decide, (q_in (q_t2 (List.mem_of_getElem? (i := 47) (by decide +kernel))) (by decide +kernel)), rfl, uwX0, tyX0_ok, nmX0, rfl, by decide +kernel⟩
theorem fX0_18 : q_fl RX0 18 0 2 := ⟨RX0, TX0, 4, rfl, by decide, (q_in (q_t2 (List.mem_of_getElem? (i := 48) (by decide +kernel))) (by decide +kernel)), rfl, uwX0⟩
theorem gX0_18 : q_fp RX0 18 0 2 (.object "SetupJobShop$Timetable") true := ⟨RX0, TX0, 4, tyX0, rfl, by decide, (q_in (q_t2 (List.mem_of_getElem? (i := 48) (by decide +kernel))) (by decide +kernel)), rfl, uwX0, tyX0_ok, nmX0, rfl, by decide +kernel⟩
theorem fX0_22 : q_fl RX0 22 0 3 := ⟨RX0, TX0, 4, rfl, by decide, (q_in (q_t2 (List.mem_of_getElem? (i := 49) (by decide +kernel))) (by decide +kernel)), rfl, uwX0⟩
theorem gX0_22 : q_fp RX0 22 0 3 (.array .int) true := ⟨RX0, TX0, 4, tyX0, rfl, by decide, (q_in (q_t2 (List.mem_of_getElem? (i := 49) (by decide +kernel))) (by decide +kernel)), rfl, uwX0, tyX0_ok, nmX0, rfl, by decide +kernel⟩
theorem fX8_40 : q_fl RX8 40 8 0 := ⟨RX8, TX8, 9, rfl, by decide, (q_in (q_t2 (List.mem_of_getElem? (i := 72) (by decide +kernel))) (by decide +kernel)), rfl, uwX8⟩
theorem gX8_40 : q_fp RX8 40 8 0 .int false := ⟨RX8, TX8, 9, tyX8, rfl, by decide, (q_in (q_t2 (List.mem_of_getElem? (i := 72) (by decide +kernel))) (by decide +kernel)), rfl, uwX8, tyX8_ok, nmX8, rfl, by decide +kernel⟩
theorem fX11_339 : q_fl RX11 339 8 0 := ⟨RX8, TX8, 9, rfl, by decide, (q_in (q_t2 (List.mem_of_getElem? (i := 73) (by decide +kernel))) (by decide +kernel)), rfl, uwX8⟩
theorem gX11_339 : q_fp RX11 339 8 0 .int false := ⟨RX8, TX8, 9, tyX8, rfl, by decide, (q_in (q_t2 (List.mem_of_getElem? (i := 73) (by decide +kernel))) (by decide +kernel)), rfl, uwX8, tyX8_ok, nmX8, rfl, by decide +kernel⟩
theorem fX8_12 : q_fl RX8 12 8 1 := ⟨RX8, TX8, 9, rfl, by decide, (q_in (q_t2 (List.mem_of_getElem? (i := 74) (by decide +kernel))) (by decide +kernel)), rfl, uwX8⟩
theorem gX8_12 : q_fp RX8 12 8 1 (.object "SetupJobShop$Timetable") true := ⟨RX8, TX8, 9, tyX8, rfl, by decide, (q_in (q_t2 (List.mem_of_getElem? (i := 74) (by decide +kernel))) (by decide +kernel)), rfl, uwX8, tyX8_ok, nmX8, rfl, by decide +kernel⟩
theorem fX8_21 : q_fl RX8 21 8 2 := ⟨RX8, TX8, 9, rfl, by decide, (q_in (q_t2 (List.mem_of_getElem? (i := 75) (by decide +kernel))) (by decide +kernel)), rfl, uwX8⟩
theorem gX8_21 : q_fp RX8 21 8 2 (.object "SetupJobShop$CriticalPath") true := ⟨RX8, TX8, 9, tyX8, rfl, by decide, (q_in (q_t2 (List.mem_of_getElem? (i := 75) (by decide +kernel))) (by decide +kernel)), rfl, uwX8, tyX8_ok, nmX8, rfl, by decide +kernel⟩
theorem fX8_28 : q_fl RX8 28 8 3 := ⟨RX8, TX8, 9, rfl, by decide, (q_in (q_t2 (List.mem_of_getElem? (i := 76) (by decide +kernel))) (by decide +kernel)), rfl, uwX8⟩
theorem gX8_28 : q_fp RX8 28 8 3 (.object "SetupJobShop$Orders") true := ⟨RX8, TX8, 9, tyX8, rfl, by decide, (q_in (q_t2 (List.mem_of_getElem? (i := 76) (by decide +kernel))) (by decide +kernel)), rfl, uwX8, tyX8_ok, nmX8, rfl, by decide +kernel⟩
theorem fX8_51 : q_fl RX8 51 8 4 := ⟨RX8, TX8, 9, rfl, by decide, (q_in (q_t2 (List.mem_of_getElem? (i := 77) (by decide +kernel))) (by decide +kernel)), rfl, uwX8⟩
theorem gX8_51 : q_fp RX8 51 8 4 .int false := ⟨RX8, TX8, 9, tyX8, rfl, by decide, (q_in (q_t2 (List.mem_of_getElem? (i := 77) (by decide +kernel))) (by decide +kernel)), rfl, uwX8, tyX8_ok, nmX8, rfl, by decide +kernel⟩
theorem fX8_34 : q_fl RX8 34 8 5 := ⟨RX8, TX8, 9, rfl, by decide, (q_in (q_t2 (List.mem_of_getElem? (i := 78) (by decide +kernel))) (by decide +kernel)), rfl, uwX8⟩
theorem gX8_34 : q_fp RX8 34 8 5 (.array (.array .int)) true := ⟨RX8, TX8, 9, tyX8, rfl, by decide, (q_in (q_t2 (List.mem_of_getElem? (i := 78) (by decide +kernel))) (by decide +kernel)), rfl, uwX8, tyX8_ok, nmX8, rfl, by decide +kernel⟩
theorem fX8_71 : q_fl RX8 71 8 6 := ⟨RX8, TX8, 9, rfl, by decide, (q_in (q_t2 (List.mem_of_getElem? (i := 79) (by decide +kernel))) (by decide +kernel)), rfl, uwX8⟩
theorem gX8_71 : q_fp RX8 71 8 6 .int false := ⟨RX8, TX8, 9, tyX8, rfl, by decide, (q_in (q_t2 (List.mem_of_getElem? (i := 79) (by decide +kernel))) (by decide +kernel)), rfl, uwX8, tyX8_ok, nmX8, rfl, by decide +kernel⟩
theorem fX8_99 : q_fl RX8 99 8 7 := ⟨RX8, TX8, 9, rfl, by decide, (q_in (q_t2 (List.mem_of_getElem? (i := 80) (by decide +kernel))) (by decide +kernel)), rfl, uwX8⟩
theorem gX8_99 : q_fp RX8 99 8 7 .int false := ⟨RX8, TX8, 9, tyX8, rfl, by decide, (q_in (q_t2 (List.mem_of_getElem? (i := 80) (by decide +kernel))) (by decide +kernel)), rfl, uwX8, tyX8_ok, nmX8, rfl, by decide +kernel⟩
theorem fX8_96 : q_fl RX8 96 8 8 := ⟨RX8, TX8, 9, rfl, by decide, (q_in (q_t2 (List.mem_of_getElem? (i := 81) (by decide +kernel))) (by decide +kernel)), rfl, uwX8⟩
theorem gX8_96 : q_fp RX8 96 8 8 .int false := ⟨RX8, TX8, 9, tyX8, rfl, by decide, (q_in (q_t2 (List.mem_of_getElem? (i := 81) (by decide +kernel))) (by decide +kernel)), rfl, uwX8, tyX8_ok, nmX8, rfl, by decide +kernel⟩
theorem fX1_52 : q_fl RX1 52 1 0 := ⟨RX1, TX1, 4, rfl, by decide, (q_in (q_t2 (List.mem_of_getElem? (i := 107) (by decide +kernel))) (by decide +kernel)), rfl, uwX1⟩
theorem gX1_52 : q_fp RX1 52 1 0 .int false := ⟨RX1, TX1, 4, tyX1, rfl, by decide, (q_in (q_t2 (List.mem_of_getElem? (i := 107) (by decide +kernel))) (by decide +kernel)), rfl, uwX1, tyX1_ok, nmX1, rfl, by decide +kernel⟩
theorem fX1_9 : q_fl RX1 9 1 1 := ⟨RX1, TX1, 4, rfl, by decide, (q_in (q_t2 (List.mem_of_getElem? (i := 108) (by decide +kernel))) (by decide +kernel)), rfl, uwX1⟩
theorem gX1_9 : q_fp RX1 9 1 1 (.array .int) true := ⟨RX1, TX1, 4, tyX1, rfl, by decide, (q_in (q_t2 (List.mem_of_getElem? (i := 108) (by decide +kernel))) (by decide +kernel)), rfl, uwX1, tyX1_ok, nmX1, rfl, by decide +kernel⟩
theorem fX1_15 : q_fl RX1 15 1 2 := ⟨RX1, TX1, 4, rfl, by decide, (q_in (q_t2 (List.mem_of_getElem? (i := 109) (by decide +kernel))) (by decide +kernel)), rfl, uwX1⟩
theorem gX1_15 : q_fp RX1 15 1 2 (.array .int) true := ⟨RX1, TX1, 4, tyX1, rfl, by decide, (q_in (q_t2 (List.mem_of_getElem? (i := 109) (by decide +kernel))) (by decide +kernel)), rfl, uwX1, tyX1_ok, nmX1, rfl, by decide +kernel⟩
theorem fX1_18 : q_fl RX1 18 1 3 := ⟨RX1, TX1, 4, rfl, by decide, (q_in (q_t2 (List.mem_of_getElem? (i := 110) (by decide +kernel))) (by decide +kernel)), rfl, uwX1⟩
theorem gX1_18 : q_fp RX1 18 1 3 (.array .int) true := ⟨RX1, TX1, 4, tyX1, rfl, by decide, (q_in (q_t2 (List.mem_of_getElem? (i := 110) (by decide +kernel))) (by decide +kernel)), rfl, uwX1, tyX1_ok, nmX1, rfl, by decide +kernel⟩
theorem fX9_22 : q_fl RX9 22 9 0 := ⟨RX9, TX9, 8, rfl, by decide, (q_in (q_t2 (List.mem_of_getElem? (i := 126) (by decide +kernel))) (by decide +kernel)), rfl, uwX9⟩
theorem gX9_22 : q_fp RX9 22 9 0 .int false := ⟨RX9, TX9, 8, tyX9, rfl, by decide, (q_in (q_t2 (List.mem_of_getElem? (i := 126) (by decide +kernel))) (by decide +kernel)), rfl, uwX9, tyX9_ok, nmX9, rfl, by decide +kernel⟩
theorem fX11_349 : q_fl RX11 349 9 0 := ⟨RX9, TX9, 8, rfl, by decide, (q_in (q_t2 (List.mem_of_getElem? (i := 127) (by decide +kernel))) (by decide +kernel)), rfl, uwX9⟩
theorem gX11_349 : q_fp RX11 349 9 0 .int false := ⟨RX9, TX9, 8, tyX9, rfl, by decide, (q_in (q_t2 (List.mem_of_getElem? (i := 127) (by decide +kernel))) (by decide +kernel)), rfl, uwX9, tyX9_ok, nmX9, rfl, by decide +kernel⟩
theorem fX9_9 : q_fl RX9 9 9 1 := ⟨RX9, TX9, 8, rfl, by decide, (q_in (q_t2 (List.mem_of_getElem? (i := 128) (by decide +kernel))) (by decide +kernel)), rfl, uwX9⟩
theorem gX9_9 : q_fp RX9 9 9 1 (.array .char) true := ⟨RX9, TX9, 8, tyX9, rfl, by decide, (q_in (q_t2 (List.mem_of_getElem? (i := 128) (by decide +kernel))) (by decide +kernel)), rfl, uwX9, tyX9_ok, nmX9, rfl, by decide +kernel⟩
theorem fX9_26 : q_fl RX9 26 9 2 := ⟨RX9, TX9, 8, rfl, by decide, (q_in (q_t2 (List.mem_of_getElem? (i := 129) (by decide +kernel))) (by decide +kernel)), rfl, uwX9⟩
theorem gX9_26 : q_fp RX9 26 9 2 .int false := ⟨RX9, TX9, 8, tyX9, rfl, by decide, (q_in (q_t2 (List.mem_of_getElem? (i := 129) (by decide +kernel))) (by decide +kernel)), rfl, uwX9, tyX9_ok, nmX9, rfl, by decide +kernel⟩
theorem fX9_15 : q_fl RX9 15 9 3 := ⟨RX9, TX9, 8, rfl, by decide, (q_in (q_t2 (List.mem_of_getElem? (i := 130) (by decide +kernel))) (by decide +kernel)), rfl, uwX9⟩
theorem gX9_15 : q_fp RX9 15 9 3 (.array .int) true := ⟨RX9, TX9, 8, tyX9, rfl, by decide, (q_in (q_t2 (List.mem_of_getElem? (i := 130) (by decide +kernel))) (by decide +kernel)), rfl, uwX9, tyX9_ok, nmX9, rfl, by decide +kernel⟩
theorem fX9_19 : q_fl RX9 19 9 4 := ⟨RX9, TX9, 8, rfl, by decide, (q_in (q_t2 (List.mem_of_getElem? (i := 131) (by decide +kernel))) (by decide +kernel)), rfl, uwX9⟩
theorem gX9_19 : q_fp RX9 19 9 4 (.array .int) true := ⟨RX9, TX9, 8, tyX9, rfl, by decide, (q_in (q_t2 (List.mem_of_getElem? (i := 131) (by decide +kernel))) (by decide +kernel)), rfl, uwX9, tyX9_ok, nmX9, rfl, by decide +kernel⟩
theorem fX9_50 : q_fl RX9 50 9 5 := ⟨RX9, TX9, 8, rfl, by decide, (q_in (q_t2 (List.mem_of_getElem? (i := 132) (by decide +kernel))) (by decide +kernel)), rfl, uwX9⟩
theorem gX9_50 : q_fp RX9 50 9 5 .int false := ⟨RX9, TX9, 8, tyX9, rfl, by decide, (q_in (q_t2 (List.mem_of_getElem? (i := 132) (by decide +kernel))) (by decide +kernel)), rfl, uwX9, tyX9_ok, nmX9, rfl, by decide +kernel⟩
theorem fX9_40 : q_fl RX9 40 9 6 := ⟨RX9, TX9, 8, rfl, by decide, (q_in (q_t2 (List.mem_of_getElem? (i := 133) (by decide +kernel))) (by decide +kernel)), rfl, uwX9⟩
theorem gX9_40 : q_fp RX9 40 9 6 .int false := ⟨RX9, TX9, 8, tyX9, rfl, by decide, (q_in (q_t2 (List.mem_of_getElem? (i := 133) (by decide +kernel))) (by decide +kernel)), rfl, uwX9, tyX9_ok, nmX9, rfl, by decide +kernel⟩
theorem fX9_37 : q_fl RX9 37 9 7 := ⟨RX9, TX9, 8, rfl, by decide, (q_in (q_t2 (List.mem_of_getElem? (i := 134) (by decide +kernel))) (by decide +kernel)), rfl, uwX9⟩
theorem gX9_37 : q_fp RX9 37 9 7 .int false := ⟨RX9, TX9, 8, tyX9, rfl, by decide, (q_in (q_t2 (List.mem_of_getElem? (i := 134) (by decide +kernel))) (by decide +kernel)), rfl, uwX9, tyX9_ok, nmX9, rfl, by decide +kernel⟩
theorem fX4_15 : q_fl RX4 15 4 0 := ⟨RX4, TX4, 2, rfl, by decide, (q_in (q_t2 (List.mem_of_getElem? (i := 159) (by decide +kernel))) (by decide +kernel)), rfl, uwX4⟩
theorem gX4_15 : q_fp RX4 15 4 0 .int false := ⟨RX4, TX4, 2, tyX4, rfl, by decide, (q_in (q_t2 (List.mem_of_getElem? (i := 159) (by decide +kernel))) (by decide +kernel)), rfl, uwX4, tyX4_ok, nmX4, rfl, by decide +kernel⟩
theorem fX4_9 : q_fl RX4 9 4 1 := ⟨RX4, TX4, 2, rfl, by decide, (q_in (q_t2 (List.mem_of_getElem? (i := 160) (by decide +kernel))) (by decide +kernel)), rfl, uwX4⟩
theorem gX4_9 : q_fp RX4 9 4 1 (.array .int) true := ⟨RX4, TX4, 2, tyX4, rfl, by decide, (q_in (q_t2 (List.mem_of_getElem? (i := 160) (by decide +kernel))) (by decide +kernel)), rfl, uwX4, tyX4_ok, nmX4, rfl, by decide +kernel⟩
theorem fX11_10 : q_fl RX11 10 11 0 := ⟨RX11, TX11, 14, rfl, by decide, (q_in (q_t2 (List.mem_of_getElem? (i := 166) (by decide +kernel))) (by decide +kernel)), rfl, uwX11⟩
theorem gX11_10 : q_fp RX11 10 11 0 (.object "SetupJobShop$Shop") true := ⟨RX11, TX11, 14, tyX11, rfl, by decide, (q_in (q_t2 (List.mem_of_getElem? (i := 166) (by decide +kernel))) (by decide +kernel)), rfl, uwX11, tyX11_ok, nmX11, rfl, by decide +kernel⟩
theorem fX11_16 : q_fl RX11 16 11 1 := ⟨RX11, TX11, 14, rfl, by decide, (q_in (q_t2 (List.mem_of_getElem? (i := 167) (by decide +kernel))) (by decide +kernel)), rfl, uwX11⟩
theorem gX11_16 : q_fp RX11 16 11 1 (.object "SetupJobShop$Shop") true := ⟨RX11, TX11, 14, tyX11, rfl, by decide, (q_in (q_t2 (List.mem_of_getElem? (i := 167) (by decide +kernel))) (by decide +kernel)), rfl, uwX11, tyX11_ok, nmX11, rfl, by decide +kernel⟩
theorem fX11_19 : q_fl RX11 19 11 2 := ⟨RX11, TX11, 14, rfl, by decide, (q_in (q_t2 (List.mem_of_getElem? (i := 168) (by decide +kernel))) (by decide +kernel)), rfl, uwX11⟩
theorem gX11_19 : q_fp RX11 19 11 2 (.object "SetupJobShop$Shop") true := ⟨RX11, TX11, 14, tyX11, rfl, by decide, (q_in (q_t2 (List.mem_of_getElem? (i := 168) (by decide +kernel))) (by decide +kernel)), rfl, uwX11, tyX11_ok, nmX11, rfl, by decide +kernel⟩
theorem fX11_25 : q_fl RX11 25 11 3 := ⟨RX11, TX11, 14, rfl, by decide, (q_in (q_t2 (List.mem_of_getElem? (i := 169) (by decide +kernel))) (by decide +kernel)), rfl, uwX11⟩
theorem gX11_25 : q_fp RX11 25 11 3 (.object "SetupJobShop$Timetable") true := ⟨RX11, TX11, 14, tyX11, rfl, by decide, (q_in (q_t2 (List.mem_of_getElem? (i := 169) (by decide +kernel))) (by decide +kernel)), rfl, uwX11, tyX11_ok, nmX11, rfl, by decide +kernel⟩
theorem fX11_29 : q_fl RX11 29 11 4 := ⟨RX11, TX11, 14, rfl, by decide, (q_in (q_t2 (List.mem_of_getElem? (i := 170) (by decide +kernel))) (by decide +kernel)), rfl, uwX11⟩
theorem gX11_29 : q_fp RX11 29 11 4 (.object "SetupJobShop$Timetable") true := ⟨RX11, TX11, 14, tyX11, rfl, by decide, (q_in (q_t2 (List.mem_of_getElem? (i := 170) (by decide +kernel))) (by decide +kernel)), rfl, uwX11, tyX11_ok, nmX11, rfl, by decide +kernel⟩
theorem fX11_35 : q_fl RX11 35 11 5 := ⟨RX11, TX11, 14, rfl, by decide, (q_in (q_t2 (List.mem_of_getElem? (i := 171) (by decide +kernel))) (by decide +kernel)), rfl, uwX11⟩
theorem gX11_35 : q_fp RX11 35 11 5 (.object "SetupJobShop$CriticalPath") true := ⟨RX11, TX11, 14, tyX11, rfl, by decide, (q_in (q_t2 (List.mem_of_getElem? (i := 171) (by decide +kernel))) (by decide +kernel)), rfl, uwX11, tyX11_ok, nmX11, rfl, by decide +kernel⟩
theorem fX11_42 : q_fl RX11 42 11 6 := ⟨RX11, TX11, 14, rfl, by decide, (q_in (q_t2 (List.mem_of_getElem? (i := 172) (by decide +kernel))) (by decide +kernel)), rfl, uwX11⟩
theorem gX11_42 : q_fp RX11 42 11 6 (.object "SetupJobShop$Dispatcher") true := ⟨RX11, TX11, 14, tyX11, rfl, by decide, (q_in (q_t2 (List.mem_of_getElem? (i := 172) (by decide +kernel))) (by decide +kernel)), rfl, uwX11, tyX11_ok, nmX11, rfl, by decide +kernel⟩
theorem fX11_49 : q_fl RX11 49 11 7 := ⟨RX11, TX11, 14, rfl, by decide, (q_in (q_t2 (List.mem_of_getElem? (i := 173) (by decide +kernel))) (by decide +kernel)), rfl, uwX11⟩
theorem gX11_49 : q_fp RX11 49 11 7 (.object "SetupJobShop$RowSearch") true := ⟨RX11, TX11, 14, tyX11, rfl, by decide, (q_in (q_t2 (List.mem_of_getElem? (i := 173) (by decide +kernel))) (by decide +kernel)), rfl, uwX11, tyX11_ok, nmX11, rfl, by decide +kernel⟩
theorem fX11_56 : q_fl RX11 56 11 8 := ⟨RX11, TX11, 14, rfl, by decide, (q_in (q_t2 (List.mem_of_getElem? (i := 174) (by decide +kernel))) (by decide +kernel)), rfl, uwX11⟩
theorem gX11_56 : q_fp RX11 56 11 8 (.object "SetupJobShop$BottleneckProcedure") true := ⟨RX11, TX11, 14, tyX11, rfl, by decide, (q_in (q_t2 (List.mem_of_getElem? (i := 174) (by decide +kernel))) (by decide +kernel)), rfl, uwX11, tyX11_ok, nmX11, rfl, by decide +kernel⟩
theorem fX11_63 : q_fl RX11 63 11 9 := ⟨RX11, TX11, 14, rfl, by decide, (q_in (q_t2 (List.mem_of_getElem? (i := 175) (by decide +kernel))) (by decide +kernel)), rfl, uwX11⟩
theorem gX11_63 : q_fp RX11 63 11 9 (.object "SetupJobShop$TabuSearch") true := ⟨RX11, TX11, 14, tyX11, rfl, by decide, (q_in (q_t2 (List.mem_of_getElem? (i := 175) (by decide +kernel))) (by decide +kernel)), rfl, uwX11, tyX11_ok, nmX11, rfl, by decide +kernel⟩
theorem fX11_70 : q_fl RX11 70 11 10 := ⟨RX11, TX11, 14, rfl, by decide, (q_in (q_t2 (List.mem_of_getElem? (i := 176) (by decide +kernel))) (by decide +kernel)), rfl, uwX11⟩
theorem gX11_70 : q_fp RX11 70 11 10 (.object "SetupJobShop$Bounds") true := ⟨RX11, TX11, 14, tyX11, rfl, by decide, (q_in (q_t2 (List.mem_of_getElem? (i := 176) (by decide +kernel))) (by decide +kernel)), rfl, uwX11, tyX11_ok, nmX11, rfl, by decide +kernel⟩
theorem fX11_77 : q_fl RX11 77 11 11 := ⟨RX11, TX11, 14, rfl, by decide, (q_in (q_t2 (List.mem_of_getElem? (i := 177) (by decide +kernel))) (by decide +kernel)), rfl, uwX11⟩
theorem gX11_77 : q_fp RX11 77 11 11 (.object "SetupJobShop$TextReader") true := ⟨RX11, TX11, 14, tyX11, rfl, by decide, (q_in (q_t2 (List.mem_of_getElem? (i := 177) (by decide +kernel))) (by decide +kernel)), rfl, uwX11, tyX11_ok, nmX11, rfl, by decide +kernel⟩
theorem fX11_84 : q_fl RX11 84 11 12 := ⟨RX11, TX11, 14, rfl, by decide, (q_in (q_t2 (List.mem_of_getElem? (i := 178) (by decide +kernel))) (by decide +kernel)), rfl, uwX11⟩
theorem gX11_84 : q_fp RX11 84 11 12 (.object "SetupJobShop$Failure") true := ⟨RX11, TX11, 14, tyX11, rfl, by decide, (q_in (q_t2 (List.mem_of_getElem? (i := 178) (by decide +kernel))) (by decide +kernel)), rfl, uwX11, tyX11_ok, nmX11, rfl, by decide +kernel⟩
theorem fX11_385 : q_fl RX11 385 11 13 := ⟨RX11, TX11, 14, rfl, by decide, (q_in (q_t2 (List.mem_of_getElem? (i := 179) (by decide +kernel))) (by decide +kernel)), rfl, uwX11⟩
theorem gX11_385 : q_fp RX11 385 11 13 .boolean false := ⟨RX11, TX11, 14, tyX11, rfl, by decide, (q_in (q_t2 (List.mem_of_getElem? (i := 179) (by decide +kernel))) (by decide +kernel)), rfl, uwX11, tyX11_ok, nmX11, rfl, by decide +kernel⟩
theorem fX12_9 : q_fl RX12 9 12 0 := ⟨RX12, TX12, 37, rfl, by decide, (q_in (q_t6 (List.mem_of_getElem? (i := 14) (by decide +kernel))) (by decide +kernel)), rfl, uwX12⟩
theorem gX12_9 : q_fp RX12 9 12 0 (.array .int) true := ⟨RX12, TX12, 37, tyX12, rfl, by decide, (q_in (q_t6 (List.mem_of_getElem? (i := 14) (by decide +kernel))) (by decide +kernel)), rfl, uwX12, tyX12_ok, nmX12, rfl, by decide +kernel⟩
theorem fX12_13 : q_fl RX12 13 12 1 := ⟨RX12, TX12, 37, rfl, by decide, (q_in (q_t6 (List.mem_of_getElem? (i := 15) (by decide +kernel))) (by decide +kernel)), rfl, uwX12⟩
theorem gX12_13 : q_fp RX12 13 12 1 (.array .int) true := ⟨RX12, TX12, 37, tyX12, rfl, by decide, (q_in (q_t6 (List.mem_of_getElem? (i := 15) (by decide +kernel))) (by decide +kernel)), rfl, uwX12, tyX12_ok, nmX12, rfl, by decide +kernel⟩
theorem fX12_327 : q_fl RX12 327 12 2 := ⟨RX12, TX12, 37, rfl, by decide, (q_in (q_t6 (List.mem_of_getElem? (i := 16) (by decide +kernel))) (by decide +kernel)), rfl, uwX12⟩
theorem gX12_327 : q_fp RX12 327 12 2 .boolean false := ⟨RX12, TX12, 37, tyX12, rfl, by decide, (q_in (q_t6 (List.mem_of_getElem? (i := 16) (by decide +kernel))) (by decide +kernel)), rfl, uwX12, tyX12_ok, nmX12, rfl, by decide +kernel⟩
theorem fX12_79 : q_fl RX12 79 12 3 := ⟨RX12, TX12, 37, rfl, by decide, (q_in (q_t6 (List.mem_of_getElem? (i := 17) (by decide +kernel))) (by decide +kernel)), rfl, uwX12⟩
theorem gX12_79 : q_fp RX12 79 12 3 .int false := ⟨RX12, TX12, 37, tyX12, rfl, by decide, (q_in (q_t6 (List.mem_of_getElem? (i := 17) (by decide +kernel))) (by decide +kernel)), rfl, uwX12, tyX12_ok, nmX12, rfl, by decide +kernel⟩
theorem fX12_16 : q_fl RX12 16 12 4 := ⟨RX12, TX12, 37, rfl, by decide, (q_in (q_t6 (List.mem_of_getElem? (i := 18) (by decide +kernel))) (by decide +kernel)), rfl, uwX12⟩
theorem gX12_16 : q_fp RX12 16 12 4 (.array .char) true := ⟨RX12, TX12, 37, tyX12, rfl, by decide, (q_in (q_t6 (List.mem_of_getElem? (i := 18) (by decide +kernel))) (by decide +kernel)), rfl, uwX12, tyX12_ok, nmX12, rfl, by decide +kernel⟩
theorem fX12_279 : q_fl RX12 279 12 5 := ⟨RX12, TX12, 37, rfl, by decide, (q_in (q_t6 (List.mem_of_getElem? (i := 19) (by decide +kernel))) (by decide +kernel)), rfl, uwX12⟩
theorem gX12_279 : q_fp RX12 279 12 5 .int false := ⟨RX12, TX12, 37, tyX12, rfl, by decide, (q_in (q_t6 (List.mem_of_getElem? (i := 19) (by decide +kernel))) (by decide +kernel)), rfl, uwX12, tyX12_ok, nmX12, rfl, by decide +kernel⟩
theorem fX12_20 : q_fl RX12 20 12 6 := ⟨RX12, TX12, 37, rfl, by decide, (q_in (q_t6 (List.mem_of_getElem? (i := 20) (by decide +kernel))) (by decide +kernel)), rfl, uwX12⟩
theorem gX12_20 : q_fp RX12 20 12 6 (.array .int) true := ⟨RX12, TX12, 37, tyX12, rfl, by decide, (q_in (q_t6 (List.mem_of_getElem? (i := 20) (by decide +kernel))) (by decide +kernel)), rfl, uwX12, tyX12_ok, nmX12, rfl, by decide +kernel⟩
theorem fX12_214 : q_fl RX12 214 12 7 := ⟨RX12, TX12, 37, rfl, by decide, (q_in (q_t6 (List.mem_of_getElem? (i := 21) (by decide +kernel))) (by decide +kernel)), rfl, uwX12⟩
theorem gX12_214 : q_fp RX12 214 12 7 .int false := ⟨RX12, TX12, 37, tyX12, rfl, by decide, (q_in (q_t6 (List.mem_of_getElem? (i := 21) (by decide +kernel))) (by decide +kernel)), rfl, uwX12, tyX12_ok, nmX12, rfl, by decide +kernel⟩
theorem fX12_23 : q_fl RX12 23 12 8 := ⟨RX12, TX12, 37, rfl, by decide, (q_in (q_t6 (List.mem_of_getElem? (i := 22) (by decide +kernel))) (by decide +kernel)), rfl, uwX12⟩
theorem gX12_23 : q_fp RX12 23 12 8 (.array .int) true := ⟨RX12, TX12, 37, tyX12, rfl, by decide, (q_in (q_t6 (List.mem_of_getElem? (i := 22) (by decide +kernel))) (by decide +kernel)), rfl, uwX12, tyX12_ok, nmX12, rfl, by decide +kernel⟩
theorem fX12_258 : q_fl RX12 258 12 9 := ⟨RX12, TX12, 37, rfl, by decide, (q_in (q_t6 (List.mem_of_getElem? (i := 23) (by decide +kernel))) (by decide +kernel)), rfl, uwX12⟩
theorem gX12_258 : q_fp RX12 258 12 9 .boolean false := ⟨RX12, TX12, 37, tyX12, rfl, by decide, (q_in (q_t6 (List.mem_of_getElem? (i := 23) (by decide +kernel))) (by decide +kernel)), rfl, uwX12, tyX12_ok, nmX12, rfl, by decide +kernel⟩
theorem fX12_270 : q_fl RX12 270 12 10 := ⟨RX12, TX12, 37, rfl, by decide, (q_in (q_t6 (List.mem_of_getElem? (i := 24) (by decide +kernel))) (by decide +kernel)), rfl, uwX12⟩
theorem gX12_270 : q_fp RX12 270 12 10 .int false := ⟨RX12, TX12, 37, tyX12, rfl, by decide, (q_in (q_t6 (List.mem_of_getElem? (i := 24) (by decide +kernel))) (by decide +kernel)), rfl, uwX12, tyX12_ok, nmX12, rfl, by decide +kernel⟩
theorem fX12_26 : q_fl RX12 26 12 11 := ⟨RX12, TX12, 37, rfl, by decide, (q_in (q_t6 (List.mem_of_getElem? (i := 25) (by decide +kernel))) (by decide +kernel)), rfl, uwX12⟩
theorem gX12_26 : q_fp RX12 26 12 11 (.array .int) true := ⟨RX12, TX12, 37, tyX12, rfl, by decide, (q_in (q_t6 (List.mem_of_getElem? (i := 25) (by decide +kernel))) (by decide +kernel)), rfl, uwX12, tyX12_ok, nmX12, rfl, by decide +kernel⟩
theorem fX12_29 : q_fl RX12 29 12 12 := ⟨RX12, TX12, 37, rfl, by decide, (q_in (q_t6 (List.mem_of_getElem? (i := 26) (by decide +kernel))) (by decide +kernel)), rfl, uwX12⟩
theorem gX12_29 : q_fp RX12 29 12 12 (.array .int) true := ⟨RX12, TX12, 37, tyX12, rfl, by decide, (q_in (q_t6 (List.mem_of_getElem? (i := 26) (by decide +kernel))) (by decide +kernel)), rfl, uwX12, tyX12_ok, nmX12, rfl, by decide +kernel⟩
theorem fX12_32 : q_fl RX12 32 12 13 := ⟨RX12, TX12, 37, rfl, by decide, (q_in (q_t6 (List.mem_of_getElem? (i := 27) (by decide +kernel))) (by decide +kernel)), rfl, uwX12⟩
theorem gX12_32 : q_fp RX12 32 12 13 (.array .boolean) true := ⟨RX12, TX12, 37, tyX12, rfl, by decide, (q_in (q_t6 (List.mem_of_getElem? (i := 27) (by decide +kernel))) (by decide +kernel)), rfl, uwX12, tyX12_ok, nmX12, rfl, by decide +kernel⟩
theorem fX12_36 : q_fl RX12 36 12 14 := ⟨RX12, TX12, 37, rfl, by decide, (q_in (q_t6 (List.mem_of_getElem? (i := 28) (by decide +kernel))) (by decide +kernel)), rfl, uwX12⟩
theorem gX12_36 : q_fp RX12 36 12 14 .int false := ⟨RX12, TX12, 37, tyX12, rfl, by decide, (q_in (q_t6 (List.mem_of_getElem? (i := 28) (by decide +kernel))) (by decide +kernel)), rfl, uwX12, tyX12_ok, nmX12, rfl, by decide +kernel⟩
theorem fX12_175 : q_fl RX12 175 12 15 := ⟨RX12, TX12, 37, rfl, by decide, (q_in (q_t6 (List.mem_of_getElem? (i := 29) (by decide +kernel))) (by decide +kernel)), rfl, uwX12⟩
theorem gX12_175 : q_fp RX12 175 12 15 .int false := ⟨RX12, TX12, 37, tyX12, rfl, by decide, (q_in (q_t6 (List.mem_of_getElem? (i := 29) (by decide +kernel))) (by decide +kernel)), rfl, uwX12, tyX12_ok, nmX12, rfl, by decide +kernel⟩
theorem fX12_40 : q_fl RX12 40 12 16 := ⟨RX12, TX12, 37, rfl, by decide, (q_in (q_t6 (List.mem_of_getElem? (i := 30) (by decide +kernel))) (by decide +kernel)), rfl, uwX12⟩
theorem gX12_40 : q_fp RX12 40 12 16 (.array .int) true := ⟨RX12, TX12, 37, tyX12, rfl, by decide, (q_in (q_t6 (List.mem_of_getElem? (i := 30) (by decide +kernel))) (by decide +kernel)), rfl, uwX12, tyX12_ok, nmX12, rfl, by decide +kernel⟩
theorem fX12_199 : q_fl RX12 199 12 17 := ⟨RX12, TX12, 37, rfl, by decide, (q_in (q_t6 (List.mem_of_getElem? (i := 31) (by decide +kernel))) (by decide +kernel)), rfl, uwX12⟩
theorem gX12_199 : q_fp RX12 199 12 17 .int false := ⟨RX12, TX12, 37, tyX12, rfl, by decide, (q_in (q_t6 (List.mem_of_getElem? (i := 31) (by decide +kernel))) (by decide +kernel)), rfl, uwX12, tyX12_ok, nmX12, rfl, by decide +kernel⟩
theorem fX12_43 : q_fl RX12 43 12 18 := ⟨RX12, TX12, 37, rfl, by decide, (q_in (q_t6 (List.mem_of_getElem? (i := 32) (by decide +kernel))) (by decide +kernel)), rfl, uwX12⟩
theorem gX12_43 : q_fp RX12 43 12 18 (.array .int) true := ⟨RX12, TX12, 37, tyX12, rfl, by decide, (q_in (q_t6 (List.mem_of_getElem? (i := 32) (by decide +kernel))) (by decide +kernel)), rfl, uwX12, tyX12_ok, nmX12, rfl, by decide +kernel⟩
theorem fX12_46 : q_fl RX12 46 12 19 := ⟨RX12, TX12, 37, rfl, by decide, (q_in (q_t6 (List.mem_of_getElem? (i := 33) (by decide +kernel))) (by decide +kernel)), rfl, uwX12⟩
theorem gX12_46 : q_fp RX12 46 12 19 (.array .int) true := ⟨RX12, TX12, 37, tyX12, rfl, by decide, (q_in (q_t6 (List.mem_of_getElem? (i := 33) (by decide +kernel))) (by decide +kernel)), rfl, uwX12, tyX12_ok, nmX12, rfl, by decide +kernel⟩
theorem fX12_49 : q_fl RX12 49 12 20 := ⟨RX12, TX12, 37, rfl, by decide, (q_in (q_t6 (List.mem_of_getElem? (i := 34) (by decide +kernel))) (by decide +kernel)), rfl, uwX12⟩
theorem gX12_49 : q_fp RX12 49 12 20 (.array .int) true := ⟨RX12, TX12, 37, tyX12, rfl, by decide, (q_in (q_t6 (List.mem_of_getElem? (i := 34) (by decide +kernel))) (by decide +kernel)), rfl, uwX12, tyX12_ok, nmX12, rfl, by decide +kernel⟩
theorem fX12_246 : q_fl RX12 246 12 21 := ⟨RX12, TX12, 37, rfl, by decide, (q_in (q_t6 (List.mem_of_getElem? (i := 35) (by decide +kernel))) (by decide +kernel)), rfl, uwX12⟩
theorem gX12_246 : q_fp RX12 246 12 21 .int false := ⟨RX12, TX12, 37, tyX12, rfl, by decide, (q_in (q_t6 (List.mem_of_getElem? (i := 35) (by decide +kernel))) (by decide +kernel)), rfl, uwX12, tyX12_ok, nmX12, rfl, by decide +kernel⟩
theorem fX12_52 : q_fl RX12 52 12 22 := ⟨RX12, TX12, 37, rfl, by decide, (q_in (q_t6 (List.mem_of_getElem? (i := 36) (by decide +kernel))) (by decide +kernel)), rfl, uwX12⟩
theorem gX12_52 : q_fp RX12 52 12 22 (.array .boolean) true := ⟨RX12, TX12, 37, tyX12, rfl, by decide, (q_in (q_t6 (List.mem_of_getElem? (i := 36) (by decide +kernel))) (by decide +kernel)), rfl, uwX12, tyX12_ok, nmX12, rfl, by decide +kernel⟩
theorem fX12_55 : q_fl RX12 55 12 23 := ⟨RX12, TX12, 37, rfl, by decide, (q_in (q_t6 (List.mem_of_getElem? (i := 37) (by decide +kernel))) (by decide +kernel)), rfl, uwX12⟩
theorem gX12_55 : q_fp RX12 55 12 23 (.array .int) true := ⟨RX12, TX12, 37, tyX12, rfl, by decide, (q_in (q_t6 (List.mem_of_getElem? (i := 37) (by decide +kernel))) (by decide +kernel)), rfl, uwX12, tyX12_ok, nmX12, rfl, by decide +kernel⟩
theorem fX12_58 : q_fl RX12 58 12 24 := ⟨RX12, TX12, 37, rfl, by decide, (q_in (q_t6 (List.mem_of_getElem? (i := 38) (by decide +kernel))) (by decide +kernel)), rfl, uwX12⟩
theorem gX12_58 : q_fp RX12 58 12 24 (.array .int) true := ⟨RX12, TX12, 37, tyX12, rfl, by decide, (q_in (q_t6 (List.mem_of_getElem? (i := 38) (by decide +kernel))) (by decide +kernel)), rfl, uwX12, tyX12_ok, nmX12, rfl, by decide +kernel⟩
theorem fX12_61 : q_fl RX12 61 12 25 := ⟨RX12, TX12, 37, rfl, by decide, (q_in (q_t6 (List.mem_of_getElem? (i := 39) (by decide +kernel))) (by decide +kernel)), rfl, uwX12⟩
theorem gX12_61 : q_fp RX12 61 12 25 (.array .int) true := ⟨RX12, TX12, 37, tyX12, rfl, by decide, (q_in (q_t6 (List.mem_of_getElem? (i := 39) (by decide +kernel))) (by decide +kernel)), rfl, uwX12, tyX12_ok, nmX12, rfl, by decide +kernel⟩
theorem fX12_64 : q_fl RX12 64 12 26 := ⟨RX12, TX12, 37, rfl, by decide, (q_in (q_t6 (List.mem_of_getElem? (i := 40) (by decide +kernel))) (by decide +kernel)), rfl, uwX12⟩
theorem gX12_64 : q_fp RX12 64 12 26 (.array .boolean) true := ⟨RX12, TX12, 37, tyX12, rfl, by decide, (q_in (q_t6 (List.mem_of_getElem? (i := 40) (by decide +kernel))) (by decide +kernel)), rfl, uwX12, tyX12_ok, nmX12, rfl, by decide +kernel⟩
theorem fX12_67 : q_fl RX12 67 12 27 := ⟨RX12, TX12, 37, rfl, by decide, (q_in (q_t6 (List.mem_of_getElem? (i := 41) (by decide +kernel))) (by decide +kernel)), rfl, uwX12⟩
theorem gX12_67 : q_fp RX12 67 12 27 (.array .int) true := ⟨RX12, TX12, 37, tyX12, rfl, by decide, (q_in (q_t6 (List.mem_of_getElem? (i := 41) (by decide +kernel))) (by decide +kernel)), rfl, uwX12, tyX12_ok, nmX12, rfl, by decide +kernel⟩
theorem fX12_70 : q_fl RX12 70 12 28 := ⟨RX12, TX12, 37, rfl, by decide, (q_in (q_t6 (List.mem_of_getElem? (i := 42) (by decide +kernel))) (by decide +kernel)), rfl, uwX12⟩
theorem gX12_70 : q_fp RX12 70 12 28 (.array .int) true := ⟨RX12, TX12, 37, tyX12, rfl, by decide, (q_in (q_t6 (List.mem_of_getElem? (i := 42) (by decide +kernel))) (by decide +kernel)), rfl, uwX12, tyX12_ok, nmX12, rfl, by decide +kernel⟩
theorem fX12_73 : q_fl RX12 73 12 29 := ⟨RX12, TX12, 37, rfl, by decide, (q_in (q_t6 (List.mem_of_getElem? (i := 43) (by decide +kernel))) (by decide +kernel)), rfl, uwX12⟩
theorem gX12_73 : q_fp RX12 73 12 29 (.array .int) true := ⟨RX12, TX12, 37, tyX12, rfl, by decide, (q_in (q_t6 (List.mem_of_getElem? (i := 43) (by decide +kernel))) (by decide +kernel)), rfl, uwX12, tyX12_ok, nmX12, rfl, by decide +kernel⟩
theorem fX12_282 : q_fl RX12 282 12 30 := ⟨RX12, TX12, 37, rfl, by decide, (q_in (q_t6 (List.mem_of_getElem? (i := 44) (by decide +kernel))) (by decide +kernel)), rfl, uwX12⟩
theorem gX12_282 : q_fp RX12 282 12 30 .int false := ⟨RX12, TX12, 37, tyX12, rfl, by decide, (q_in (q_t6 (List.mem_of_getElem? (i := 44) (by decide +kernel))) (by decide +kernel)), rfl, uwX12, tyX12_ok, nmX12, rfl, by decide +kernel⟩
theorem fX12_292 : q_fl RX12 292 12 31 := ⟨RX12, TX12, 37, rfl, by decide, (q_in (q_t6 (List.mem_of_getElem? (i := 45) (by decide +kernel))) (by decide +kernel)), rfl, uwX12⟩
theorem gX12_292 : q_fp RX12 292 12 31 .int false := ⟨RX12, TX12, 37, tyX12, rfl, by decide, (q_in (q_t6 (List.mem_of_getElem? (i := 45) (by decide +kernel))) (by decide +kernel)), rfl, uwX12, tyX12_ok, nmX12, rfl, by decide +kernel⟩
theorem fX12_289 : q_fl RX12 289 12 32 := ⟨RX12, TX12, 37, rfl, by decide, (q_in (q_t6 (List.mem_of_getElem? (i := 46) (by decide +kernel))) (by decide +kernel)), rfl, uwX12⟩
theorem gX12_289 : q_fp RX12 289 12 32 .int false := ⟨RX12, TX12, 37, tyX12, rfl, by decide, (q_in (q_t6 (List.mem_of_getElem? (i := 46) (by decide +kernel))) (by decide +kernel)), rfl, uwX12, tyX12_ok, nmX12, rfl, by decide +kernel⟩
theorem fX12_302 : q_fl RX12 302 12 33 := ⟨RX12, TX12, 37, rfl, by decide, (q_in (q_t6 (List.mem_of_getElem? (i := 47) (by decide +kernel))) (by decide +kernel)), rfl, uwX12⟩
theorem gX12_302 : q_fp RX12 302 12 33 .int false := ⟨RX12, TX12, 37, tyX12, rfl, by decide, (q_in (q_t6 (List.mem_of_getElem? (i := 47) (by decide +kernel))) (by decide +kernel)), rfl, uwX12, tyX12_ok, nmX12, rfl, by decide +kernel⟩
theorem fX12_305 : q_fl RX12 305 12 34 := ⟨RX12, TX12, 37, rfl, by decide, (q_in (q_t6 (List.mem_of_getElem? (i := 48) (by decide +kernel))) (by decide +kernel)), rfl, uwX12⟩
theorem gX12_305 : q_fp RX12 305 12 34 .int false := ⟨RX12, TX12, 37, tyX12, rfl, by decide, (q_in (q_t6 (List.mem_of_getElem? (i := 48) (by decide +kernel))) (by decide +kernel)), rfl, uwX12, tyX12_ok, nmX12, rfl, by decide +kernel⟩
theorem fX12_308 : q_fl RX12 308 12 35 := ⟨RX12, TX12, 37, rfl, by decide, (q_in (q_t6 (List.mem_of_getElem? (i := 49) (by decide +kernel))) (by decide +kernel)), rfl, uwX12⟩
theorem gX12_308 : q_fp RX12 308 12 35 .int false := ⟨RX12, TX12, 37, tyX12, rfl, by decide, (q_in (q_t6 (List.mem_of_getElem? (i := 49) (by decide +kernel))) (by decide +kernel)), rfl, uwX12, tyX12_ok, nmX12, rfl, by decide +kernel⟩
theorem fX12_76 : q_fl RX12 76 12 36 := ⟨RX12, TX12, 37, rfl, by decide, (q_in (q_t6 (List.mem_of_getElem? (i := 50) (by decide +kernel))) (by decide +kernel)), rfl, uwX12⟩
theorem gX12_76 : q_fp RX12 76 12 36 (.array .int) true := ⟨RX12, TX12, 37, tyX12, rfl, by decide, (q_in (q_t6 (List.mem_of_getElem? (i := 50) (by decide +kernel))) (by decide +kernel)), rfl, uwX12, tyX12_ok, nmX12, rfl, by decide +kernel⟩
