theorem mw_1_158 : (Cond.fieldLink RX10 28 "DearLetters$Town" "worths" "[I" : Cond) ∈ lw_good := lg_at 1 158 rfl rfl
theorem mw_4_115 : (Cond.methodLink RX10 108 yJ7_fill_53178 : Cond) ∈ lw_good := lg_at 4 115 rfl rfl
theorem mw_4_116 : (Cond.methodLink RX10 114 arraycopyName : Cond) ∈ lw_good := lg_at 4 116 rfl rfl
theorem mw_4_120 : (Cond.code yX10_worthBeside cX10_worthBeside 6 (some .int) : Cond) ∈ lw_good := lg_at 4 120 rfl rfl
theorem mw_4_117 : (Cond.methodLink RX10 120 yX10_worthBeside : Cond) ∈ lw_good := lg_at 4 117 rfl rfl
theorem mw_4_119 : (Cond.instanceMethod yX10_worthBeside : Cond) ∈ lw_good := lg_at 4 119 rfl rfl
theorem mw_0_19 : (Cond.selects RX10 yX10_worthBeside yX10_worthBeside : Cond) ∈ lw_good := lg_at 0 19 rfl rfl
