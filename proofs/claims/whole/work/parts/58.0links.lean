theorem nL_7 : CN RL 7 4 7 [.null, .null, .null, .int 0, .null, .null, .null] := ⟨RX5, TX5, tyX5, rfl, TB_mem (by decide +kernel) rfl, TB_mem (by decide +kernel) rfl, TB_mem (by decide +kernel) rfl, uX5, tyX5_ok, fun j hj => by rcases (show j = 0 ∨ j = 1 ∨ j = 2 ∨ j = 3 ∨ j = 4 ∨ j = 5 ∨ j = 6 by omega) with rfl | rfl | rfl | rfl | rfl | rfl | rfl <;> rfl⟩
theorem mlX5_init : MLw yX5_init cX5_init 2 none 0 := ⟨TB_mem (by decide +kernel) rfl, TB_mem (by decide +kernel) rfl, by decide +kernel, by decide +kernel, by decide +kernel⟩
theorem miX5_init : Cond.instanceMethod yX5_init ∈ TB := TB_mem (by decide +kernel) rfl
theorem kL_9 : Cond.methodLink RL 9 yX5_init ∈ TB := TB_mem (by decide +kernel) rfl
theorem nL_10 : CN RL 10 5 15 [.null, .null, .null, .int 0, .null, .null, .int 0, .int 0, .int 0, .int 0, .int 0, .int 0, .null, .null, .null] := ⟨RX6, TX6, tyX6, rfl, TB_mem (by decide +kernel) rfl, TB_mem (by decide +kernel) rfl, TB_mem (by decide +kernel) rfl, uX6, tyX6_ok, fun j hj => by rcases (show j = 0 ∨ j = 1 ∨ j = 2 ∨ j = 3 ∨ j = 4 ∨ j = 5 ∨ j = 6 ∨ j = 7 ∨ j = 8 ∨ j = 9 ∨ j = 10 ∨ j = 11 ∨ j = 12 ∨ j = 13 ∨ j = 14 by omega) with rfl | rfl | rfl | rfl | rfl | rfl | rfl | rfl | rfl | rfl | rfl | rfl | rfl | rfl | rfl <;> rfl⟩
theorem mlX6_init : MLw yX6_init cX6_init 2 none 0 := ⟨TB_mem (by decide +kernel) rfl, TB_mem (by decide +kernel) rfl, by decide +kernel, by decide +kernel, by decide +kernel⟩
theorem miX6_init : Cond.instanceMethod yX6_init ∈ TB := TB_mem (by decide +kernel) rfl
theorem kL_12 : Cond.methodLink RL 12 yX6_init ∈ TB := TB_mem (by decide +kernel) rfl
