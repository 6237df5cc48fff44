theorem fX6_19 : FL RX6 19 5 4 := ⟨RX6, TX6, 15, tyX6, rfl, by decide, TB_mem (by decide +kernel) rfl, uX6, tyX6_ok, nmX6⟩
theorem qX6_34 : Cond.constant RX6 34 ((-1000001)) ∈ TB := TB_mem (by decide +kernel) rfl
theorem qX6_35 : Cond.constant RX6 35 ((-1000004)) ∈ TB := TB_mem (by decide +kernel) rfl
theorem mlX6_finds : MLw yX6_finds cX6_finds 2 (some .int) 1 := ⟨TB_mem (by decide +kernel) rfl, TB_mem (by decide +kernel) rfl, by decide +kernel, by decide +kernel, by decide +kernel⟩
theorem mvX6_finds : MLv yX6_finds := ⟨TB_mem (by decide +kernel) rfl, TB_mem (by decide +kernel) rfl⟩
theorem kX6_36 : Cond.methodLink RX6 36 yX6_finds ∈ TB := TB_mem (by decide +kernel) rfl
theorem fX6_9 : FL RX6 9 5 0 := ⟨RX6, TX6, 15, tyX6, rfl, by decide, TB_mem (by decide +kernel) rfl, uX6, tyX6_ok, nmX6⟩
theorem qX6_40 : Cond.constantLong RX6 40 ((nI 9).toInt64) ∈ TB := by rw [show (nI 9).toInt64 = (9 : Int64) by decide +kernel]; exact TB_mem (by decide +kernel) rfl
theorem mlX6_in : MLw yX6_in cX6_in 6 (some .boolean) 3 := ⟨TB_mem (by decide +kernel) rfl, TB_mem (by decide +kernel) rfl, by decide +kernel, by decide +kernel, by decide +kernel⟩
theorem msX6_in : Cond.static yX6_in ∈ TB := TB_mem (by decide +kernel) rfl
theorem kX6_42 : Cond.methodLink RX6 42 yX6_in ∈ TB := TB_mem (by decide +kernel) rfl
theorem qX6_46 : Cond.constantLong RX6 46 ((nI 6).toInt64) ∈ TB := by rw [show (nI 6).toInt64 = (6 : Int64) by decide +kernel]; exact TB_mem (by decide +kernel) rfl
theorem qX6_48 : Cond.constantLong RX6 48 ((nI 20).toInt64) ∈ TB := by rw [show (nI 20).toInt64 = (20 : Int64) by decide +kernel]; exact TB_mem (by decide +kernel) rfl
theorem qX6_63 : Cond.constantLong RX6 63 ((nI 3).toInt64) ∈ TB := by rw [show (nI 3).toInt64 = (3 : Int64) by decide +kernel]; exact TB_mem (by decide +kernel) rfl
