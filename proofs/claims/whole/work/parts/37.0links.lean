theorem qX6_68 : Cond.constantLong RX6 68 ((nI 9999).toInt64) ∈ TB := by rw [show (nI 9999).toInt64 = (9999 : Int64) by decide +kernel]; exact TB_mem (by decide +kernel) rfl
theorem mlX6_isPart : MLw yX6_isPart cX6_isPart 2 (some .boolean) 2 := ⟨TB_mem (by decide +kernel) rfl, TB_mem (by decide +kernel) rfl, by decide +kernel, by decide +kernel, by decide +kernel⟩
theorem msX6_isPart : Cond.static yX6_isPart ∈ TB := TB_mem (by decide +kernel) rfl
theorem kX6_70 : Cond.methodLink RX6 70 yX6_isPart ∈ TB := TB_mem (by decide +kernel) rfl
theorem mlX6_orNone : MLw yX6_orNone cX6_orNone 2 (some .int) 1 := ⟨TB_mem (by decide +kernel) rfl, TB_mem (by decide +kernel) rfl, by decide +kernel, by decide +kernel, by decide +kernel⟩
theorem mvX6_orNone : MLv yX6_orNone := ⟨TB_mem (by decide +kernel) rfl, TB_mem (by decide +kernel) rfl⟩
theorem kX6_76 : Cond.methodLink RX6 76 yX6_orNone ∈ TB := TB_mem (by decide +kernel) rfl
theorem mlX6_isKind : MLw yX6_isKind cX6_isKind 1 (some .boolean) 1 := ⟨TB_mem (by decide +kernel) rfl, TB_mem (by decide +kernel) rfl, by decide +kernel, by decide +kernel, by decide +kernel⟩
theorem msX6_isKind : Cond.static yX6_isKind ∈ TB := TB_mem (by decide +kernel) rfl
theorem kX6_79 : Cond.methodLink RX6 79 yX6_isKind ∈ TB := TB_mem (by decide +kernel) rfl
theorem mlX6_isPut : MLw yX6_isPut cX6_isPut 1 (some .boolean) 1 := ⟨TB_mem (by decide +kernel) rfl, TB_mem (by decide +kernel) rfl, by decide +kernel, by decide +kernel, by decide +kernel⟩
theorem msX6_isPut : Cond.static yX6_isPut ∈ TB := TB_mem (by decide +kernel) rfl
theorem kX6_82 : Cond.methodLink RX6 82 yX6_isPut ∈ TB := TB_mem (by decide +kernel) rfl
theorem mlX6_comes : MLw yX6_comes cX6_comes 5 none 3 := ⟨TB_mem (by decide +kernel) rfl, TB_mem (by decide +kernel) rfl, by decide +kernel, by decide +kernel, by decide +kernel⟩
theorem mvX6_comes : MLv yX6_comes := ⟨TB_mem (by decide +kernel) rfl, TB_mem (by decide +kernel) rfl⟩
theorem kX6_86 : Cond.methodLink RX6 86 yX6_comes ∈ TB := TB_mem (by decide +kernel) rfl
theorem qX6_85 : Cond.constant RX6 85 ((-1000002)) ∈ TB := TB_mem (by decide +kernel) rfl
