theorem mw_1_215 : (Cond.methodLink RX2 3 objectInit : Cond) ∈ lw_good := lg_at 1 215 rfl rfl
theorem mw_1_216 : (Cond.classLink RX2 9 RX7 : Cond) ∈ lw_good := lg_at 1 216 rfl rfl
theorem mw_1_218 : (Cond.instantiable RX7 7 : Cond) ∈ lw_good := lg_at 1 218 rfl rfl
theorem mw_1_7 : (Cond.initialized RX7 : Cond) ∈ lw_good := lg_at 1 7 rfl rfl
theorem mw_1_221 : (Cond.code yX7_init cX7_init 1 none : Cond) ∈ lw_good := lg_at 1 221 rfl rfl
theorem mw_1_220 : (Cond.instanceMethod yX7_init : Cond) ∈ lw_good := lg_at 1 220 rfl rfl
