theorem w_acn : Cond.native arraycopyName ∈ lw_ok := ok_2 153 rfl rfl
theorem w_acs : Cond.static arraycopyName ∈ lw_ok := ok_2 152 rfl rfl
theorem w_aci : Cond.initialized "java/lang/System" ∈ lw_ok := ok_1 15 rfl rfl
theorem lc_X0_43 : Cond.methodLink RX0 43 arraycopyName ∈ lw_ok := ok_2 151 rfl rfl
theorem lc_J7_150 : Cond.methodLink RJ7 150 arraycopyName ∈ lw_ok := ok_3 233 rfl rfl
theorem lc_X3_24 : Cond.methodLink RX3 24 arraycopyName ∈ lw_ok := ok_5 88 rfl rfl
