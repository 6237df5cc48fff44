theorem qX6_115 : Cond.constant RX6 115 (nI 1103515245) ∈ TB := TB_mem (by decide +kernel) rfl
