/-! the law's cases, as they are decoded: 2 -/
theorem oc_reach : okC 498 2 57 60 (477) := by
  refine ⟨by decide +kernel, ?_, by decide +kernel, by decide +kernel, ?_, by decide +kernel, by decide +kernel, by decide⟩
  · intro j hj
    rcases (show j = 0 ∨ j = 1 by omega) with rfl | rfl
    · exact ⟨by decide +kernel, by decide +kernel, by decide +kernel, by decide +kernel, by decide +kernel⟩
    · exact ⟨by decide +kernel, by decide +kernel, by decide +kernel, by decide +kernel, by decide +kernel⟩
  · intro j hj
    rcases (show j = 0 ∨ j = 1 by omega) with rfl | rfl
    · exact ⟨by decide +kernel, by decide +kernel, by decide +kernel, by decide +kernel, by decide +kernel⟩
    · exact ⟨by decide +kernel, by decide +kernel, by decide +kernel, by decide +kernel, by decide +kernel⟩
theorem oz1_reach : okZ 49 2 6 := by decide +kernel
theorem ol1_reach : Cond.methodLink "FoldDyeLaw" 57 (fx_nm 49) ∈ fx_tb := List.mem_filter.mpr ⟨List.mem_of_getElem? (i := 411) (by decide +kernel), rfl⟩
theorem oz2_reach : okZ 100 2 7 := by decide +kernel
theorem ol2_reach : Cond.methodLink "FoldDyeLaw" 60 (fx_nm 100) ∈ fx_tb := List.mem_filter.mpr ⟨List.mem_of_getElem? (i := 831) (by decide +kernel), rfl⟩
theorem oc_bath : okC 531 3 61 64 (434) := by
  refine ⟨by decide +kernel, ?_, by decide +kernel, by decide +kernel, ?_, by decide +kernel, by decide +kernel, by decide⟩
  · intro j hj
    rcases (show j = 0 ∨ j = 1 ∨ j = 2 by omega) with rfl | rfl | rfl
    · exact ⟨by decide +kernel, by decide +kernel, by decide +kernel, by decide +kernel, by decide +kernel⟩
    · exact ⟨by decide +kernel, by decide +kernel, by decide +kernel, by decide +kernel, by decide +kernel⟩
    · exact ⟨by decide +kernel, by decide +kernel, by decide +kernel, by decide +kernel, by decide +kernel⟩
  · intro j hj
    rcases (show j = 0 ∨ j = 1 ∨ j = 2 by omega) with rfl | rfl | rfl
    · exact ⟨by decide +kernel, by decide +kernel, by decide +kernel, by decide +kernel, by decide +kernel⟩
    · exact ⟨by decide +kernel, by decide +kernel, by decide +kernel, by decide +kernel, by decide +kernel⟩
    · exact ⟨by decide +kernel, by decide +kernel, by decide +kernel, by decide +kernel, by decide +kernel⟩
theorem oz1_bath : okZ 50 3 6 := by decide +kernel
theorem ol1_bath : Cond.methodLink "FoldDyeLaw" 61 (fx_nm 50) ∈ fx_tb := List.mem_filter.mpr ⟨List.mem_of_getElem? (i := 454) (by decide +kernel), rfl⟩
theorem oz2_bath : okZ 103 3 7 := by decide +kernel
theorem ol2_bath : Cond.methodLink "FoldDyeLaw" 64 (fx_nm 103) ∈ fx_tb := List.mem_filter.mpr ⟨List.mem_of_getElem? (i := 855) (by decide +kernel), rfl⟩
theorem oc_discharge : okC 574 3 65 68 (391) := by
  refine ⟨by decide +kernel, ?_, by decide +kernel, by decide +kernel, ?_, by decide +kernel, by decide +kernel, by decide⟩
  · intro j hj
    rcases (show j = 0 ∨ j = 1 ∨ j = 2 by omega) with rfl | rfl | rfl
    · exact ⟨by decide +kernel, by decide +kernel, by decide +kernel, by decide +kernel, by decide +kernel⟩
    · exact ⟨by decide +kernel, by decide +kernel, by decide +kernel, by decide +kernel, by decide +kernel⟩
    · exact ⟨by decide +kernel, by decide +kernel, by decide +kernel, by decide +kernel, by decide +kernel⟩
  · intro j hj
    rcases (show j = 0 ∨ j = 1 ∨ j = 2 by omega) with rfl | rfl | rfl
    · exact ⟨by decide +kernel, by decide +kernel, by decide +kernel, by decide +kernel, by decide +kernel⟩
    · exact ⟨by decide +kernel, by decide +kernel, by decide +kernel, by decide +kernel, by decide +kernel⟩
    · exact ⟨by decide +kernel, by decide +kernel, by decide +kernel, by decide +kernel, by decide +kernel⟩
theorem oz1_discharge : okZ 51 3 6 := by decide +kernel
theorem ol1_discharge : Cond.methodLink "FoldDyeLaw" 65 (fx_nm 51) ∈ fx_tb := List.mem_filter.mpr ⟨List.mem_of_getElem? (i := 471) (by decide +kernel), rfl⟩
theorem oz2_discharge : okZ 104 3 7 := by decide +kernel
theorem ol2_discharge : Cond.methodLink "FoldDyeLaw" 68 (fx_nm 104) ∈ fx_tb := List.mem_filter.mpr ⟨List.mem_of_getElem? (i := 867) (by decide +kernel), rfl⟩
theorem oc_dry : okC 617 1 69 72 (368) := by
  refine ⟨by decide +kernel, ?_, by decide +kernel, by decide +kernel, ?_, by decide +kernel, by decide +kernel, by decide⟩
  · intro j hj
    obtain rfl : j = 0 := by omega
    exact ⟨by decide +kernel, by decide +kernel, by decide +kernel, by decide +kernel, by decide +kernel⟩
  · intro j hj
    obtain rfl : j = 0 := by omega
    exact ⟨by decide +kernel, by decide +kernel, by decide +kernel, by decide +kernel, by decide +kernel⟩
theorem oz1_dry : okZ 52 1 6 := by decide +kernel
theorem ol1_dry : Cond.methodLink "FoldDyeLaw" 69 (fx_nm 52) ∈ fx_tb := List.mem_filter.mpr ⟨List.mem_of_getElem? (i := 475) (by decide +kernel), rfl⟩
theorem oz2_dry : okZ 105 1 7 := by decide +kernel
theorem ol2_dry : Cond.methodLink "FoldDyeLaw" 72 (fx_nm 105) ∈ fx_tb := List.mem_filter.mpr ⟨List.mem_of_getElem? (i := 871) (by decide +kernel), rfl⟩
theorem oc_depth : okC 640 2 73 76 (335) := by
  refine ⟨by decide +kernel, ?_, by decide +kernel, by decide +kernel, ?_, by decide +kernel, by decide +kernel, by decide⟩
  · intro j hj
    rcases (show j = 0 ∨ j = 1 by omega) with rfl | rfl
    · exact ⟨by decide +kernel, by decide +kernel, by decide +kernel, by decide +kernel, by decide +kernel⟩
    · exact ⟨by decide +kernel, by decide +kernel, by decide +kernel, by decide +kernel, by decide +kernel⟩
  · intro j hj
    rcases (show j = 0 ∨ j = 1 by omega) with rfl | rfl
    · exact ⟨by decide +kernel, by decide +kernel, by decide +kernel, by decide +kernel, by decide +kernel⟩
    · exact ⟨by decide +kernel, by decide +kernel, by decide +kernel, by decide +kernel, by decide +kernel⟩
theorem oz1_depth : okZ 53 2 6 := by decide +kernel
theorem ol1_depth : Cond.methodLink "FoldDyeLaw" 73 (fx_nm 53) ∈ fx_tb := List.mem_filter.mpr ⟨List.mem_of_getElem? (i := 479) (by decide +kernel), rfl⟩
theorem oz2_depth : okZ 106 2 7 := by decide +kernel
theorem ol2_depth : Cond.methodLink "FoldDyeLaw" 76 (fx_nm 106) ∈ fx_tb := List.mem_filter.mpr ⟨List.mem_of_getElem? (i := 875) (by decide +kernel), rfl⟩
