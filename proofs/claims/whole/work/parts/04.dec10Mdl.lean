theorem d_Mdl_touched_18 : decode b_Mdl_touched 18 = .ok (.aload_n 0, 1) := by decide +kernel
theorem d_Mdl_touched_19 : decode b_Mdl_touched 19 = .ok (.getfield 20, 3) := by decide +kernel
theorem d_Mdl_touched_22 : decode b_Mdl_touched 22 = .ok (.iload_n 1, 1) := by decide +kernel
theorem d_Mdl_touched_23 : decode b_Mdl_touched 23 = .ok (.iaload, 1) := by decide +kernel
theorem d_Mdl_touched_24 : decode b_Mdl_touched 24 = .ok (.goto 4, 3) := by decide +kernel
theorem d_Mdl_touched_27 : decode b_Mdl_touched 27 = .ok (.iconst (-1), 1) := by decide +kernel
theorem d_Mdl_touched_28 : decode b_Mdl_touched 28 = .ok (.ireturn, 1) := by decide +kernel
theorem d_Mdl_steps_0 : decode b_Mdl_steps 0 = .ok (.aload_n 0, 1) := by decide +kernel
theorem d_Mdl_steps_1 : decode b_Mdl_steps 1 = .ok (.getfield 191, 3) := by decide +kernel
theorem d_Mdl_steps_4 : decode b_Mdl_steps 4 = .ok (.ireturn, 1) := by decide +kernel
