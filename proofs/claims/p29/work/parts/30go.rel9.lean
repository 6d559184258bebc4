/-! answers: rule, stuff, can, count -/
theorem flag_e {m : uk_Mem} {x : Int32} : e_X7_flag m x = if x = 0 then 0 else 1 := rfl