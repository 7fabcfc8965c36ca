theorem mw_6_170 : (Cond.code yX12_askedRoutes cX12_askedRoutes 3 (some .int) : Cond) ∈ lw_good := lg_at 6 170 rfl rfl
theorem mw_6_167 : (Cond.methodLink RX12 266 yX12_askedRoutes : Cond) ∈ lw_good := lg_at 6 167 rfl rfl
theorem mw_6_169 : (Cond.instanceMethod yX12_askedRoutes : Cond) ∈ lw_good := lg_at 6 169 rfl rfl
theorem mw_0_52 : (Cond.selects RX12 yX12_askedRoutes yX12_askedRoutes : Cond) ∈ lw_good := lg_at 0 52 rfl rfl
theorem mw_6_195 : (Cond.code yX12_layRoute cX12_layRoute 5 none : Cond) ∈ lw_good := lg_at 6 195 rfl rfl
theorem mw_6_192 : (Cond.methodLink RX12 269 yX12_layRoute : Cond) ∈ lw_good := lg_at 6 192 rfl rfl
theorem mw_6_194 : (Cond.instanceMethod yX12_layRoute : Cond) ∈ lw_good := lg_at 6 194 rfl rfl
theorem mw_0_58 : (Cond.selects RX12 yX12_layRoute yX12_layRoute : Cond) ∈ lw_good := lg_at 0 58 rfl rfl
