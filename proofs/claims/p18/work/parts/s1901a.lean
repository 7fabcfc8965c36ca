theorem mw_4_121 : (Cond.methodLink RX10 124 Lib.Math.max.name : Cond) ∈ lw_good := lg_at 4 121 rfl rfl
theorem mw_1_159 : (Cond.fieldLink RX10 31 "DearLetters$Town" "nextWorths" "[I" : Cond) ∈ lw_good := lg_at 1 159 rfl rfl
