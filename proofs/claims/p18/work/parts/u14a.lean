theorem mw_5_40 : (Cond.methodLink RX12 1 objectInit : Cond) ∈ lw_good := lg_at 5 40 rfl rfl
