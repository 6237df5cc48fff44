theorem mlX6_served : MLw yX6_served cX6_served 1 (some .int) 0 := ⟨TB_mem (by decide +kernel) rfl, TB_mem (by decide +kernel) rfl, by decide +kernel, by decide +kernel, by decide +kernel⟩
theorem mvX6_served : MLv yX6_served := ⟨TB_mem (by decide +kernel) rfl, TB_mem (by decide +kernel) rfl⟩
theorem kX6_126 : Cond.methodLink RX6 126 yX6_served ∈ TB := TB_mem (by decide +kernel) rfl
theorem mlX6_meal : MLw yX6_meal cX6_meal 4 (some .int) 1 := ⟨TB_mem (by decide +kernel) rfl, TB_mem (by decide +kernel) rfl, by decide +kernel, by decide +kernel, by decide +kernel⟩
theorem mvX6_meal : MLv yX6_meal := ⟨TB_mem (by decide +kernel) rfl, TB_mem (by decide +kernel) rfl⟩
theorem kX6_129 : Cond.methodLink RX6 129 yX6_meal ∈ TB := TB_mem (by decide +kernel) rfl
theorem qX6_132 : Cond.constantLong RX6 132 ((nI 70).toInt64) ∈ TB := by rw [show (nI 70).toInt64 = (70 : Int64) by decide +kernel]; exact TB_mem (by decide +kernel) rfl
theorem qX6_134 : Cond.constant RX6 134 (nI 99999) ∈ TB := TB_mem (by decide +kernel) rfl
theorem mlX6_mealsOf : MLw yX6_mealsOf cX6_mealsOf 4 (some .int) 1 := ⟨TB_mem (by decide +kernel) rfl, TB_mem (by decide +kernel) rfl, by decide +kernel, by decide +kernel, by decide +kernel⟩
theorem mvX6_mealsOf : MLv yX6_mealsOf := ⟨TB_mem (by decide +kernel) rfl, TB_mem (by decide +kernel) rfl⟩
theorem kX6_136 : Cond.methodLink RX6 136 yX6_mealsOf ∈ TB := TB_mem (by decide +kernel) rfl
theorem qX6_135 : Cond.constant RX6 135 ((-1000005)) ∈ TB := TB_mem (by decide +kernel) rfl
theorem mlX6_week : MLw yX6_week cX6_week 3 (some .int) 0 := ⟨TB_mem (by decide +kernel) rfl, TB_mem (by decide +kernel) rfl, by decide +kernel, by decide +kernel, by decide +kernel⟩
theorem mvX6_week : MLv yX6_week := ⟨TB_mem (by decide +kernel) rfl, TB_mem (by decide +kernel) rfl⟩
theorem kX6_139 : Cond.methodLink RX6 139 yX6_week ∈ TB := TB_mem (by decide +kernel) rfl
theorem qX6_142 : Cond.constantLong RX6 142 ((nI 10).toInt64) ∈ TB := by rw [show (nI 10).toInt64 = (10 : Int64) by decide +kernel]; exact TB_mem (by decide +kernel) rfl
theorem mlX6_isShort : MLw yX6_isShort cX6_isShort 1 (some .boolean) 0 := ⟨TB_mem (by decide +kernel) rfl, TB_mem (by decide +kernel) rfl, by decide +kernel, by decide +kernel, by decide +kernel⟩
theorem mvX6_isShort : MLv yX6_isShort := ⟨TB_mem (by decide +kernel) rfl, TB_mem (by decide +kernel) rfl⟩
theorem kX6_144 : Cond.methodLink RX6 144 yX6_isShort ∈ TB := TB_mem (by decide +kernel) rfl
theorem qX6_148 : Cond.constantLong RX6 148 ((nI 7).toInt64) ∈ TB := by rw [show (nI 7).toInt64 = (7 : Int64) by decide +kernel]; exact TB_mem (by decide +kernel) rfl
theorem mlX6_isTaste : MLw yX6_isTaste cX6_isTaste 2 (some .boolean) 1 := ⟨TB_mem (by decide +kernel) rfl, TB_mem (by decide +kernel) rfl, by decide +kernel, by decide +kernel, by decide +kernel⟩
theorem mvX6_isTaste : MLv yX6_isTaste := ⟨TB_mem (by decide +kernel) rfl, TB_mem (by decide +kernel) rfl⟩
theorem kX6_99 : Cond.methodLink RX6 99 yX6_isTaste ∈ TB := TB_mem (by decide +kernel) rfl
theorem qX6_102 : Cond.constantLong RX6 102 ((nI 4).toInt64) ∈ TB := by rw [show (nI 4).toInt64 = (4 : Int64) by decide +kernel]; exact TB_mem (by decide +kernel) rfl
theorem mlX6_swaps : MLw yX6_swaps cX6_swaps 4 none 2 := ⟨TB_mem (by decide +kernel) rfl, TB_mem (by decide +kernel) rfl, by decide +kernel, by decide +kernel, by decide +kernel⟩
theorem mvX6_swaps : MLv yX6_swaps := ⟨TB_mem (by decide +kernel) rfl, TB_mem (by decide +kernel) rfl⟩
theorem kX6_111 : Cond.methodLink RX6 111 yX6_swaps ∈ TB := TB_mem (by decide +kernel) rfl
