theorem mlX5_likedBehind : MLw yX5_likedBehind cX5_likedBehind 2 (some .int) 1 := ⟨TB_mem (by decide +kernel) rfl, TB_mem (by decide +kernel) rfl, by decide +kernel, by decide +kernel, by decide +kernel⟩
theorem mvX5_likedBehind : MLv yX5_likedBehind := ⟨TB_mem (by decide +kernel) rfl, TB_mem (by decide +kernel) rfl⟩
theorem kX5_226 : Cond.methodLink RX5 226 yX5_likedBehind ∈ TB := TB_mem (by decide +kernel) rfl
