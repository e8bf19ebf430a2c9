theorem inG0 : ∀ w ∈ u_ws RX0 TX0 1, w ∈ gw := by
  have h : (u_ws RX0 TX0 1).all (fun w => decide (w ∈ lw_tbl) && goodWord w) = true := by decide +kernel
  intro w hw
  have h1 := List.all_eq_true.mp h w hw
  simp only [Bool.and_eq_true, decide_eq_true_eq] at h1
  exact List.mem_filter.mpr h1
theorem inG1 : ∀ w ∈ u_ws RX1 TX1 3, w ∈ gw := by
  have h : (u_ws RX1 TX1 3).all (fun w => decide (w ∈ lw_tbl) && goodWord w) = true := by decide +kernel
  intro w hw
  have h1 := List.all_eq_true.mp h w hw
  simp only [Bool.and_eq_true, decide_eq_true_eq] at h1
  exact List.mem_filter.mpr h1
theorem inG2 : ∀ w ∈ u_ws RX2 TX2 7, w ∈ gw := by
  have h : (u_ws RX2 TX2 7).all (fun w => decide (w ∈ lw_tbl) && goodWord w) = true := by decide +kernel
  intro w hw
  have h1 := List.all_eq_true.mp h w hw
  simp only [Bool.and_eq_true, decide_eq_true_eq] at h1
  exact List.mem_filter.mpr h1
theorem inG3 : ∀ w ∈ u_ws RX3 TX3 4, w ∈ gw := by
  have h : (u_ws RX3 TX3 4).all (fun w => decide (w ∈ lw_tbl) && goodWord w) = true := by decide +kernel
  intro w hw
  have h1 := List.all_eq_true.mp h w hw
  simp only [Bool.and_eq_true, decide_eq_true_eq] at h1
  exact List.mem_filter.mpr h1
theorem inG4 : ∀ w ∈ u_ws RX4 TX4 19, w ∈ gw := by
  have h : (u_ws RX4 TX4 19).all (fun w => decide (w ∈ lw_tbl) && goodWord w) = true := by decide +kernel
  intro w hw
  have h1 := List.all_eq_true.mp h w hw
  simp only [Bool.and_eq_true, decide_eq_true_eq] at h1
  exact List.mem_filter.mpr h1
theorem inG5 : ∀ w ∈ u_ws RX5 TX5 13, w ∈ gw := by
  have h : (u_ws RX5 TX5 13).all (fun w => decide (w ∈ lw_tbl) && goodWord w) = true := by decide +kernel
  intro w hw
  have h1 := List.all_eq_true.mp h w hw
  simp only [Bool.and_eq_true, decide_eq_true_eq] at h1
  exact List.mem_filter.mpr h1
theorem inG6 : ∀ w ∈ u_ws RX6 TX6 6, w ∈ gw := by
  have h : (u_ws RX6 TX6 6).all (fun w => decide (w ∈ lw_tbl) && goodWord w) = true := by decide +kernel
  intro w hw
  have h1 := List.all_eq_true.mp h w hw
  simp only [Bool.and_eq_true, decide_eq_true_eq] at h1
  exact List.mem_filter.mpr h1
theorem inG7 : ∀ w ∈ u_ws RX7 TX7 1, w ∈ gw := by
  have h : (u_ws RX7 TX7 1).all (fun w => decide (w ∈ lw_tbl) && goodWord w) = true := by decide +kernel
  intro w hw
  have h1 := List.all_eq_true.mp h w hw
  simp only [Bool.and_eq_true, decide_eq_true_eq] at h1
  exact List.mem_filter.mpr h1
theorem inG8 : ∀ w ∈ u_ws RX8 TX8 6, w ∈ gw := by
  have h : (u_ws RX8 TX8 6).all (fun w => decide (w ∈ lw_tbl) && goodWord w) = true := by decide +kernel
  intro w hw
  have h1 := List.all_eq_true.mp h w hw
  simp only [Bool.and_eq_true, decide_eq_true_eq] at h1
  exact List.mem_filter.mpr h1
theorem inG9 : ∀ w ∈ u_ws RX9 TX9 8, w ∈ gw := by
  have h : (u_ws RX9 TX9 8).all (fun w => decide (w ∈ lw_tbl) && goodWord w) = true := by decide +kernel
  intro w hw
  have h1 := List.all_eq_true.mp h w hw
  simp only [Bool.and_eq_true, decide_eq_true_eq] at h1
  exact List.mem_filter.mpr h1
theorem inG10 : ∀ w ∈ u_ws RX10 TX10 10, w ∈ gw := by
  have h : (u_ws RX10 TX10 10).all (fun w => decide (w ∈ lw_tbl) && goodWord w) = true := by decide +kernel
  intro w hw
  have h1 := List.all_eq_true.mp h w hw
  simp only [Bool.and_eq_true, decide_eq_true_eq] at h1
  exact List.mem_filter.mpr h1
theorem inG11 : ∀ w ∈ u_ws RX11 TX11 69, w ∈ gw := by
  have h : (u_ws RX11 TX11 69).all (fun w => decide (w ∈ lw_tbl) && goodWord w) = true := by decide +kernel
  intro w hw
  have h1 := List.all_eq_true.mp h w hw
  simp only [Bool.and_eq_true, decide_eq_true_eq] at h1
  exact List.mem_filter.mpr h1
theorem gm_148 : Cond.fieldLink RX8 9 RX8 "bytes" "[B" ∈ gw := gw_mem 148 (by decide +kernel) (by decide +kernel)
theorem gm_149 : Cond.fieldLink RX8 15 RX8 "kinds" "[I" ∈ gw := gw_mem 149 (by decide +kernel) (by decide +kernel)
theorem gm_151 : Cond.fieldLink RX8 19 RX8 "starts" "[I" ∈ gw := gw_mem 151 (by decide +kernel) (by decide +kernel)
theorem gm_153 : Cond.fieldLink RX8 22 RX8 "values" "[J" ∈ gw := gw_mem 153 (by decide +kernel) (by decide +kernel)
theorem gm_155 : Cond.fieldLink RX8 26 RX8 "length" "I" ∈ gw := gw_mem 155 (by decide +kernel) (by decide +kernel)
theorem gm_158 : Cond.fieldLink RX8 30 RX8 "tokens" "I" ∈ gw := gw_mem 158 (by decide +kernel) (by decide +kernel)
