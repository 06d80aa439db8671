theorem d_Mdl_interrupt_11 : decode b_Mdl_interrupt 11 = .ok (.ifCond .ne 7, 3) := by decide +kernel
theorem d_Mdl_interrupt_14 : decode b_Mdl_interrupt 14 = .ok (.iconst 1, 1) := by decide +kernel
theorem d_Mdl_interrupt_15 : decode b_Mdl_interrupt 15 = .ok (.goto 4, 3) := by decide +kernel
theorem d_Mdl_interrupt_18 : decode b_Mdl_interrupt 18 = .ok (.iconst 0, 1) := by decide +kernel
theorem d_Mdl_interrupt_19 : decode b_Mdl_interrupt 19 = .ok (.ireturn, 1) := by decide +kernel
theorem d_Mdl_line_0 : decode b_Mdl_line 0 = .ok (.aload_n 0, 1) := by decide +kernel
theorem d_Mdl_line_1 : decode b_Mdl_line 1 = .ok (.iload_n 1, 1) := by decide +kernel
theorem d_Mdl_line_2 : decode b_Mdl_line 2 = .ok (.putfield 197, 3) := by decide +kernel
theorem d_Mdl_line_5 : decode b_Mdl_line 5 = .ok (.return_, 1) := by decide +kernel
theorem d_Mdl_touches_0 : decode b_Mdl_touches 0 = .ok (.aload_n 0, 1) := by decide +kernel
theorem d_Mdl_touches_1 : decode b_Mdl_touches 1 = .ok (.getfield 23, 3) := by decide +kernel
theorem d_Mdl_touches_4 : decode b_Mdl_touches 4 = .ok (.ireturn, 1) := by decide +kernel
theorem d_Mdl_touched_0 : decode b_Mdl_touched 0 = .ok (.iload_n 1, 1) := by decide +kernel
theorem d_Mdl_touched_1 : decode b_Mdl_touched 1 = .ok (.ifCond .lt 26, 3) := by decide +kernel
theorem d_Mdl_touched_4 : decode b_Mdl_touched 4 = .ok (.iload_n 1, 1) := by decide +kernel
theorem d_Mdl_touched_5 : decode b_Mdl_touched 5 = .ok (.bipush 8, 2) := by decide +kernel
theorem d_Mdl_touched_7 : decode b_Mdl_touched 7 = .ok (.if_icmp .ge 20, 3) := by decide +kernel
theorem d_Mdl_touched_10 : decode b_Mdl_touched 10 = .ok (.iload_n 1, 1) := by decide +kernel
theorem d_Mdl_touched_11 : decode b_Mdl_touched 11 = .ok (.aload_n 0, 1) := by decide +kernel
theorem d_Mdl_touched_12 : decode b_Mdl_touched 12 = .ok (.getfield 23, 3) := by decide +kernel
theorem d_Mdl_touched_15 : decode b_Mdl_touched 15 = .ok (.if_icmp .ge 12, 3) := by decide +kernel
theorem d_Mdl_touched_18 : decode b_Mdl_touched 18 = .ok (.aload_n 0, 1) := by decide +kernel
theorem d_Mdl_touched_19 : decode b_Mdl_touched 19 = .ok (.getfield 20, 3) := by decide +kernel
theorem d_Mdl_touched_22 : decode b_Mdl_touched 22 = .ok (.iload_n 1, 1) := by decide +kernel
theorem d_Mdl_touched_23 : decode b_Mdl_touched 23 = .ok (.iaload, 1) := by decide +kernel
theorem d_Mdl_touched_24 : decode b_Mdl_touched 24 = .ok (.goto 4, 3) := by decide +kernel
theorem d_Mdl_touched_27 : decode b_Mdl_touched 27 = .ok (.iconst (-1), 1) := by decide +kernel
theorem d_Mdl_touched_28 : decode b_Mdl_touched 28 = .ok (.ireturn, 1) := by decide +kernel
theorem d_Mdl_steps_0 : decode b_Mdl_steps 0 = .ok (.aload_n 0, 1) := by decide +kernel
theorem d_Mdl_steps_1 : decode b_Mdl_steps 1 = .ok (.getfield 191, 3) := by decide +kernel
theorem d_Mdl_steps_4 : decode b_Mdl_steps 4 = .ok (.ireturn, 1) := by decide +kernel
