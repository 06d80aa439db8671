set_option maxRecDepth 100000 in
theorem q_74 : Cond.classLink R_Law 7 R_Wc ∈ WS := WS_at 74 rfl rfl
set_option maxRecDepth 100000 in
theorem q_75 : Cond.instantiable R_Wc 3 ∈ WS := WS_at 75 rfl rfl
set_option maxRecDepth 100000 in
theorem q_76 : Cond.methodLink R_Law 9 y_Wc_init ∈ WS := WS_at 76 rfl rfl
set_option maxRecDepth 100000 in
theorem q_77 : Cond.instanceMethod y_Wc_init ∈ WS := WS_at 77 rfl rfl
set_option maxRecDepth 100000 in
theorem q_78 : Cond.code y_Wc_init b_Wc_init 1 none ∈ WS := WS_at 78 rfl rfl
set_option maxRecDepth 100000 in
theorem q_557 : Cond.classLink R_Law 10 R_Mdl ∈ WS := WS_at 557 rfl rfl
set_option maxRecDepth 100000 in
theorem q_558 : Cond.instantiable R_Mdl 18 ∈ WS := WS_at 558 rfl rfl
set_option maxRecDepth 100000 in
theorem q_559 : Cond.methodLink R_Law 12 y_Mdl_init ∈ WS := WS_at 559 rfl rfl
set_option maxRecDepth 100000 in
theorem q_560 : Cond.instanceMethod y_Mdl_init ∈ WS := WS_at 560 rfl rfl
set_option maxRecDepth 100000 in
theorem q_561 : Cond.code y_Mdl_init b_Mdl_init 1 none ∈ WS := WS_at 561 rfl rfl
theorem d_Law_law_0 : decode code 0 = .ok (.new 7, 3) := by decide +kernel
theorem d_Law_law_3 : decode code 3 = .ok (.dup, 1) := by decide +kernel
theorem d_Law_law_4 : decode code 4 = .ok (.invokespecial 9, 3) := by decide +kernel
theorem d_Law_law_7 : decode code 7 = .ok (.astore_n 1, 1) := by decide +kernel
theorem d_Law_law_8 : decode code 8 = .ok (.new 10, 3) := by decide +kernel
theorem d_Law_law_11 : decode code 11 = .ok (.dup, 1) := by decide +kernel
theorem d_Law_law_12 : decode code 12 = .ok (.invokespecial 12, 3) := by decide +kernel
theorem d_Law_law_15 : decode code 15 = .ok (.astore_n 2, 1) := by decide +kernel
theorem d_Law_law_16 : decode code 16 = .ok (.iconst 0, 1) := by decide +kernel
theorem d_Law_law_17 : decode code 17 = .ok (.istore_n 3, 1) := by decide +kernel
