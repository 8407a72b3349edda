theorem dM_count_171 : decode tp_bM_count 171 = .ok (.ireturn, 1) := by decide +kernel
