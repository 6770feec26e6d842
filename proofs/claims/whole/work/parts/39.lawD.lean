set_option maxRecDepth 20000 in
theorem mt_0 : Cond.instantiable RX0 8 ∈ lw_tbl := by decide +kernel
set_option maxRecDepth 20000 in
theorem mt_1 : Cond.instantiable RX1 18 ∈ lw_tbl := by decide +kernel
set_option maxRecDepth 20000 in
theorem mt_2 : Cond.instantiable RX3 5 ∈ lw_tbl := by decide +kernel
set_option maxRecDepth 20000 in
theorem mt_3 : Cond.instantiable RX4 4 ∈ lw_tbl := by decide +kernel
set_option maxRecDepth 20000 in
theorem mt_4 : Cond.instantiable RX5 38 ∈ lw_tbl := by decide +kernel
set_option maxRecDepth 20000 in
theorem mt_5 : Cond.classLink RL 7 RX4 ∈ lw_tbl := by decide +kernel
set_option maxRecDepth 20000 in
theorem mt_6 : Cond.initialized RX4 ∈ lw_tbl := by decide +kernel
set_option maxRecDepth 20000 in
theorem mt_7 : Cond.methodLink RL 9 yX4_init ∈ lw_tbl := by decide +kernel
set_option maxRecDepth 20000 in
theorem mt_8 : Cond.instanceMethod yX4_init ∈ lw_tbl := by decide +kernel
set_option maxRecDepth 20000 in
theorem mt_9 : Cond.classLink RL 10 RX5 ∈ lw_tbl := by decide +kernel
set_option maxRecDepth 20000 in
theorem mt_10 : Cond.initialized RX5 ∈ lw_tbl := by decide +kernel
set_option maxRecDepth 20000 in
theorem mt_11 : Cond.methodLink RL 12 yX5_init ∈ lw_tbl := by decide +kernel
set_option maxRecDepth 20000 in
theorem mt_12 : Cond.instanceMethod yX5_init ∈ lw_tbl := by decide +kernel
set_option maxRecDepth 20000 in
theorem mt_13 : Cond.methodLinkNest RX4 18 yX1_init RX4 ∈ lw_tbl := by decide +kernel
set_option maxRecDepth 20000 in
theorem mt_14 : Cond.methodLinkNest RX4 25 yX3_init RX4 ∈ lw_tbl := by decide +kernel
set_option maxRecDepth 20000 in
theorem mt_15 : Cond.methodLinkNest RX1 85 yX4_cell RX4 ∈ lw_tbl := by decide +kernel
set_option maxRecDepth 20000 in
theorem mt_16 : Cond.methodLinkNest RX3 75 yX4_place RX4 ∈ lw_tbl := by decide +kernel
