theorem mlX6_like : MLw yX6_like cX6_like 2 (some .int) 1 := ⟨TB_mem (by decide +kernel) rfl, TB_mem (by decide +kernel) rfl, by decide +kernel, by decide +kernel, by decide +kernel⟩
theorem mvX6_like : MLv yX6_like := ⟨TB_mem (by decide +kernel) rfl, TB_mem (by decide +kernel) rfl⟩
theorem kX6_50 : Cond.methodLink RX6 50 yX6_like ∈ TB := TB_mem (by decide +kernel) rfl
theorem mlX6_isFood : MLw yX6_isFood cX6_isFood 1 (some .boolean) 1 := ⟨TB_mem (by decide +kernel) rfl, TB_mem (by decide +kernel) rfl, by decide +kernel, by decide +kernel, by decide +kernel⟩
theorem msX6_isFood : Cond.static yX6_isFood ∈ TB := TB_mem (by decide +kernel) rfl
theorem kX6_55 : Cond.methodLink RX6 55 yX6_isFood ∈ TB := TB_mem (by decide +kernel) rfl
theorem mlX6_becomes : MLw yX6_becomes cX6_becomes 4 (some .int) 2 := ⟨TB_mem (by decide +kernel) rfl, TB_mem (by decide +kernel) rfl, by decide +kernel, by decide +kernel, by decide +kernel⟩
theorem mvX6_becomes : MLv yX6_becomes := ⟨TB_mem (by decide +kernel) rfl, TB_mem (by decide +kernel) rfl⟩
theorem kX6_59 : Cond.methodLink RX6 59 yX6_becomes ∈ TB := TB_mem (by decide +kernel) rfl
theorem qX6_53 : Cond.constantLong RX6 53 ((nI 99).toInt64) ∈ TB := by rw [show (nI 99).toInt64 = (99 : Int64) by decide +kernel]; exact TB_mem (by decide +kernel) rfl
theorem mlX6_isLiked : MLw yX6_isLiked cX6_isLiked 2 (some .boolean) 1 := ⟨TB_mem (by decide +kernel) rfl, TB_mem (by decide +kernel) rfl, by decide +kernel, by decide +kernel, by decide +kernel⟩
theorem mvX6_isLiked : MLv yX6_isLiked := ⟨TB_mem (by decide +kernel) rfl, TB_mem (by decide +kernel) rfl⟩
theorem kX6_65 : Cond.methodLink RX6 65 yX6_isLiked ∈ TB := TB_mem (by decide +kernel) rfl
theorem qX6_74 : Cond.constantLong RX6 74 ((nI 1023).toInt64) ∈ TB := by rw [show (nI 1023).toInt64 = (1023 : Int64) by decide +kernel]; exact TB_mem (by decide +kernel) rfl
