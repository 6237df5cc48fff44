theorem fX6_13 : FL RX6 13 5 1 := ⟨RX6, TX6, 15, tyX6, rfl, by decide, TB_mem (by decide +kernel) rfl, uX6, tyX6_ok, nmX6⟩
theorem fX6_282 : FL RX6 282 5 3 := ⟨RX6, TX6, 15, tyX6, rfl, by decide, TB_mem (by decide +kernel) rfl, uX6, tyX6_ok, nmX6⟩
theorem wX6_3 : FW 5 3 .boolean := ⟨RX6, TX6, 15, rfl, rfl, by decide +kernel⟩
theorem fX6_173 : FL RX6 173 5 6 := ⟨RX6, TX6, 15, tyX6, rfl, by decide, TB_mem (by decide +kernel) rfl, uX6, tyX6_ok, nmX6⟩
theorem qX6_285 : Cond.constantLong RX6 285 (((-1 : Int32)).toInt64) ∈ TB := by rw [show ((-1 : Int32)).toInt64 = (-1 : Int64) by decide +kernel]; exact TB_mem (by decide +kernel) rfl
theorem wX6_6 : FW 5 6 .int := ⟨RX6, TX6, 15, rfl, rfl, by decide +kernel⟩
theorem fX6_22 : FL RX6 22 5 5 := ⟨RX6, TX6, 15, tyX6, rfl, by decide, TB_mem (by decide +kernel) rfl, uX6, tyX6_ok, nmX6⟩
