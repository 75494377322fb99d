theorem w_acN : Cond.native arraycopyName ∈ z_WS := z_w 368 (by decide +kernel) rfl
theorem w_acS : Cond.static arraycopyName ∈ z_WS := z_w 367 (by decide +kernel) rfl
theorem ml_X1_32 : Cond.methodLink RX1 32 arraycopyName ∈ z_WS := z_w 366 (by decide +kernel) rfl
theorem ml_X2_35 : Cond.methodLink RX2 35 arraycopyName ∈ z_WS := z_w 668 (by decide +kernel) rfl
theorem ml_X6_189 : Cond.methodLink RX6 189 arraycopyName ∈ z_WS := z_w 707 (by decide +kernel) rfl
