theorem mlX6_serves : MLw yX6_serves cX6_serves 5 (some .int) 1 := ⟨TB_mem (by decide +kernel) rfl, TB_mem (by decide +kernel) rfl, by decide +kernel, by decide +kernel, by decide +kernel⟩
theorem mvX6_serves : MLv yX6_serves := ⟨TB_mem (by decide +kernel) rfl, TB_mem (by decide +kernel) rfl⟩
theorem kX6_123 : Cond.methodLink RX6 123 yX6_serves ∈ TB := TB_mem (by decide +kernel) rfl
