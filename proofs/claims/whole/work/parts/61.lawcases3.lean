/-! the law's cases, as they are decoded: 3 -/
theorem oc_mirrored : okC 673 2 77 80 (302) := by
  refine ⟨by decide +kernel, ?_, by decide +kernel, by decide +kernel, ?_, by decide +kernel, by decide +kernel, by decide⟩
  · intro j hj
    rcases (show j = 0 ∨ j = 1 by omega) with rfl | rfl
    · exact ⟨by decide +kernel, by decide +kernel, by decide +kernel, by decide +kernel, by decide +kernel⟩
    · exact ⟨by decide +kernel, by decide +kernel, by decide +kernel, by decide +kernel, by decide +kernel⟩
  · intro j hj
    rcases (show j = 0 ∨ j = 1 by omega) with rfl | rfl
    · exact ⟨by decide +kernel, by decide +kernel, by decide +kernel, by decide +kernel, by decide +kernel⟩
    · exact ⟨by decide +kernel, by decide +kernel, by decide +kernel, by decide +kernel, by decide +kernel⟩
theorem oz1_mirrored : okZ 54 2 6 := by decide +kernel
theorem ol1_mirrored : Cond.methodLink "FoldDyeLaw" 77 (fx_nm 54) ∈ fx_tb := List.mem_filter.mpr ⟨List.mem_of_getElem? (i := 483) (by decide +kernel), rfl⟩
theorem oz2_mirrored : okZ 108 2 7 := by decide +kernel
theorem ol2_mirrored : Cond.methodLink "FoldDyeLaw" 80 (fx_nm 108) ∈ fx_tb := List.mem_filter.mpr ⟨List.mem_of_getElem? (i := 879) (by decide +kernel), rfl⟩
theorem oc_period : okC 706 2 81 84 (269) := by
  refine ⟨by decide +kernel, ?_, by decide +kernel, by decide +kernel, ?_, by decide +kernel, by decide +kernel, by decide⟩
  · intro j hj
    rcases (show j = 0 ∨ j = 1 by omega) with rfl | rfl
    · exact ⟨by decide +kernel, by decide +kernel, by decide +kernel, by decide +kernel, by decide +kernel⟩
    · exact ⟨by decide +kernel, by decide +kernel, by decide +kernel, by decide +kernel, by decide +kernel⟩
  · intro j hj
    rcases (show j = 0 ∨ j = 1 by omega) with rfl | rfl
    · exact ⟨by decide +kernel, by decide +kernel, by decide +kernel, by decide +kernel, by decide +kernel⟩
    · exact ⟨by decide +kernel, by decide +kernel, by decide +kernel, by decide +kernel, by decide +kernel⟩
theorem oz1_period : okZ 55 2 6 := by decide +kernel
theorem ol1_period : Cond.methodLink "FoldDyeLaw" 81 (fx_nm 55) ∈ fx_tb := List.mem_filter.mpr ⟨List.mem_of_getElem? (i := 495) (by decide +kernel), rfl⟩
theorem oz2_period : okZ 110 2 7 := by decide +kernel
theorem ol2_period : Cond.methodLink "FoldDyeLaw" 84 (fx_nm 110) ∈ fx_tb := List.mem_filter.mpr ⟨List.mem_of_getElem? (i := 887) (by decide +kernel), rfl⟩
theorem oc_steps : okC 739 2 85 88 (236) := by
  refine ⟨by decide +kernel, ?_, by decide +kernel, by decide +kernel, ?_, by decide +kernel, by decide +kernel, by decide⟩
  · intro j hj
    rcases (show j = 0 ∨ j = 1 by omega) with rfl | rfl
    · exact ⟨by decide +kernel, by decide +kernel, by decide +kernel, by decide +kernel, by decide +kernel⟩
    · exact ⟨by decide +kernel, by decide +kernel, by decide +kernel, by decide +kernel, by decide +kernel⟩
  · intro j hj
    rcases (show j = 0 ∨ j = 1 by omega) with rfl | rfl
    · exact ⟨by decide +kernel, by decide +kernel, by decide +kernel, by decide +kernel, by decide +kernel⟩
    · exact ⟨by decide +kernel, by decide +kernel, by decide +kernel, by decide +kernel, by decide +kernel⟩
theorem oz1_steps : okZ 56 2 6 := by decide +kernel
theorem ol1_steps : Cond.methodLink "FoldDyeLaw" 85 (fx_nm 56) ∈ fx_tb := List.mem_filter.mpr ⟨List.mem_of_getElem? (i := 503) (by decide +kernel), rfl⟩
theorem oz2_steps : okZ 111 2 7 := by decide +kernel
theorem ol2_steps : Cond.methodLink "FoldDyeLaw" 88 (fx_nm 111) ∈ fx_tb := List.mem_filter.mpr ⟨List.mem_of_getElem? (i := 895) (by decide +kernel), rfl⟩
theorem oc_alike : okC 772 3 89 92 (193) := by
  refine ⟨by decide +kernel, ?_, by decide +kernel, by decide +kernel, ?_, by decide +kernel, by decide +kernel, by decide⟩
  · intro j hj
    rcases (show j = 0 ∨ j = 1 ∨ j = 2 by omega) with rfl | rfl | rfl
    · exact ⟨by decide +kernel, by decide +kernel, by decide +kernel, by decide +kernel, by decide +kernel⟩
    · exact ⟨by decide +kernel, by decide +kernel, by decide +kernel, by decide +kernel, by decide +kernel⟩
    · exact ⟨by decide +kernel, by decide +kernel, by decide +kernel, by decide +kernel, by decide +kernel⟩
  · intro j hj
    rcases (show j = 0 ∨ j = 1 ∨ j = 2 by omega) with rfl | rfl | rfl
    · exact ⟨by decide +kernel, by decide +kernel, by decide +kernel, by decide +kernel, by decide +kernel⟩
    · exact ⟨by decide +kernel, by decide +kernel, by decide +kernel, by decide +kernel, by decide +kernel⟩
    · exact ⟨by decide +kernel, by decide +kernel, by decide +kernel, by decide +kernel, by decide +kernel⟩
theorem oz1_alike : okZ 57 3 6 := by decide +kernel
theorem ol1_alike : Cond.methodLink "FoldDyeLaw" 89 (fx_nm 57) ∈ fx_tb := List.mem_filter.mpr ⟨List.mem_of_getElem? (i := 510) (by decide +kernel), rfl⟩
theorem oz2_alike : okZ 112 3 7 := by decide +kernel
theorem ol2_alike : Cond.methodLink "FoldDyeLaw" 92 (fx_nm 112) ∈ fx_tb := List.mem_filter.mpr ⟨List.mem_of_getElem? (i := 899) (by decide +kernel), rfl⟩
theorem oc_wish : okC 815 2 93 96 (160) := by
  refine ⟨by decide +kernel, ?_, by decide +kernel, by decide +kernel, ?_, by decide +kernel, by decide +kernel, by decide⟩
  · intro j hj
    rcases (show j = 0 ∨ j = 1 by omega) with rfl | rfl
    · exact ⟨by decide +kernel, by decide +kernel, by decide +kernel, by decide +kernel, by decide +kernel⟩
    · exact ⟨by decide +kernel, by decide +kernel, by decide +kernel, by decide +kernel, by decide +kernel⟩
  · intro j hj
    rcases (show j = 0 ∨ j = 1 by omega) with rfl | rfl
    · exact ⟨by decide +kernel, by decide +kernel, by decide +kernel, by decide +kernel, by decide +kernel⟩
    · exact ⟨by decide +kernel, by decide +kernel, by decide +kernel, by decide +kernel, by decide +kernel⟩
theorem oz1_wish : okZ 58 2 6 := by decide +kernel
theorem ol1_wish : Cond.methodLink "FoldDyeLaw" 93 (fx_nm 58) ∈ fx_tb := List.mem_filter.mpr ⟨List.mem_of_getElem? (i := 514) (by decide +kernel), rfl⟩
theorem oz2_wish : okZ 113 2 7 := by decide +kernel
theorem ol2_wish : Cond.methodLink "FoldDyeLaw" 96 (fx_nm 113) ∈ fx_tb := List.mem_filter.mpr ⟨List.mem_of_getElem? (i := 903) (by decide +kernel), rfl⟩
