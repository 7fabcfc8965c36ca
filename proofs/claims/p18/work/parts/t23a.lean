theorem mw_7_37 : (Cond.constant RX12 294 2147483646 : Cond) ∈ lw_good := lg_at 7 37 rfl rfl
theorem mw_7_38 : (Cond.constantLong RX12 295 48271 : Cond) ∈ lw_good := lg_at 7 38 rfl rfl
theorem mw_7_39 : (Cond.constantLong RX12 297 2147483647 : Cond) ∈ lw_good := lg_at 7 39 rfl rfl
