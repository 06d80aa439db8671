theorem d_Reg_init_0 : decode b_Reg_init 0 = .ok (.aload_n 0, 1) := by decide +kernel
theorem d_Reg_init_1 : decode b_Reg_init 1 = .ok (.invokespecial 1, 3) := by decide +kernel
theorem d_Reg_init_4 : decode b_Reg_init 4 = .ok (.aload_n 0, 1) := by decide +kernel
theorem d_Reg_init_5 : decode b_Reg_init 5 = .ok (.sipush 255, 3) := by decide +kernel
theorem d_Reg_init_8 : decode b_Reg_init 8 = .ok (.putfield 7, 3) := by decide +kernel
theorem d_Reg_init_11 : decode b_Reg_init 11 = .ok (.aload_n 0, 1) := by decide +kernel
theorem d_Reg_init_12 : decode b_Reg_init 12 = .ok (.bipush 52, 2) := by decide +kernel
theorem d_Reg_init_14 : decode b_Reg_init 14 = .ok (.putfield 13, 3) := by decide +kernel
theorem d_Reg_init_17 : decode b_Reg_init 17 = .ok (.return_, 1) := by decide +kernel
theorem d_Reg_maskOf_0 : decode b_Reg_maskOf 0 = .ok (.iload_n 0, 1) := by decide +kernel
theorem d_Reg_maskOf_1 : decode b_Reg_maskOf 1 = .ok (.ifCond .eq 8, 3) := by decide +kernel
theorem d_Reg_maskOf_4 : decode b_Reg_maskOf 4 = .ok (.ldc 16, 2) := by decide +kernel
theorem d_Reg_maskOf_6 : decode b_Reg_maskOf 6 = .ok (.goto 6, 3) := by decide +kernel
theorem d_Reg_maskOf_9 : decode b_Reg_maskOf 9 = .ok (.sipush 255, 3) := by decide +kernel
theorem d_Reg_maskOf_12 : decode b_Reg_maskOf 12 = .ok (.ireturn, 1) := by decide +kernel
theorem d_Reg_signOf_0 : decode b_Reg_signOf 0 = .ok (.iload_n 0, 1) := by decide +kernel
theorem d_Reg_signOf_1 : decode b_Reg_signOf 1 = .ok (.ifCond .eq 8, 3) := by decide +kernel
theorem d_Reg_signOf_4 : decode b_Reg_signOf 4 = .ok (.ldc 17, 2) := by decide +kernel
theorem d_Reg_signOf_6 : decode b_Reg_signOf 6 = .ok (.goto 6, 3) := by decide +kernel
theorem d_Reg_signOf_9 : decode b_Reg_signOf 9 = .ok (.sipush 128, 3) := by decide +kernel
theorem d_Reg_signOf_12 : decode b_Reg_signOf 12 = .ok (.ireturn, 1) := by decide +kernel
theorem d_Reg_has_0 : decode b_Reg_has 0 = .ok (.aload_n 0, 1) := by decide +kernel
theorem d_Reg_has_1 : decode b_Reg_has 1 = .ok (.getfield 13, 3) := by decide +kernel
theorem d_Reg_has_4 : decode b_Reg_has 4 = .ok (.iload_n 1, 1) := by decide +kernel
theorem d_Reg_has_5 : decode b_Reg_has 5 = .ok (.iand, 1) := by decide +kernel
theorem d_Reg_has_6 : decode b_Reg_has 6 = .ok (.ifCond .eq 7, 3) := by decide +kernel
theorem d_Reg_has_9 : decode b_Reg_has 9 = .ok (.iconst 1, 1) := by decide +kernel
theorem d_Reg_has_10 : decode b_Reg_has 10 = .ok (.goto 4, 3) := by decide +kernel
theorem d_Reg_has_13 : decode b_Reg_has 13 = .ok (.iconst 0, 1) := by decide +kernel
theorem d_Reg_has_14 : decode b_Reg_has 14 = .ok (.ireturn, 1) := by decide +kernel
theorem d_Reg_putFlag_0 : decode b_Reg_putFlag 0 = .ok (.aload_n 0, 1) := by decide +kernel
theorem d_Reg_putFlag_1 : decode b_Reg_putFlag 1 = .ok (.iload_n 2, 1) := by decide +kernel
theorem d_Reg_putFlag_2 : decode b_Reg_putFlag 2 = .ok (.ifCond .eq 12, 3) := by decide +kernel
theorem d_Reg_putFlag_5 : decode b_Reg_putFlag 5 = .ok (.aload_n 0, 1) := by decide +kernel
theorem d_Reg_putFlag_6 : decode b_Reg_putFlag 6 = .ok (.getfield 13, 3) := by decide +kernel
theorem d_Reg_putFlag_9 : decode b_Reg_putFlag 9 = .ok (.iload_n 1, 1) := by decide +kernel
theorem d_Reg_putFlag_10 : decode b_Reg_putFlag 10 = .ok (.ior, 1) := by decide +kernel
theorem d_Reg_putFlag_11 : decode b_Reg_putFlag 11 = .ok (.goto 11, 3) := by decide +kernel
theorem d_Reg_putFlag_14 : decode b_Reg_putFlag 14 = .ok (.aload_n 0, 1) := by decide +kernel
theorem d_Reg_putFlag_15 : decode b_Reg_putFlag 15 = .ok (.getfield 13, 3) := by decide +kernel
theorem d_Reg_putFlag_18 : decode b_Reg_putFlag 18 = .ok (.iload_n 1, 1) := by decide +kernel
theorem d_Reg_putFlag_19 : decode b_Reg_putFlag 19 = .ok (.iconst (-1), 1) := by decide +kernel
theorem d_Reg_putFlag_20 : decode b_Reg_putFlag 20 = .ok (.ixor, 1) := by decide +kernel
theorem d_Reg_putFlag_21 : decode b_Reg_putFlag 21 = .ok (.iand, 1) := by decide +kernel
theorem d_Reg_putFlag_22 : decode b_Reg_putFlag 22 = .ok (.putfield 13, 3) := by decide +kernel
theorem d_Reg_putFlag_25 : decode b_Reg_putFlag 25 = .ok (.return_, 1) := by decide +kernel
theorem d_Reg_wideA_0 : decode b_Reg_wideA 0 = .ok (.aload_n 0, 1) := by decide +kernel
theorem d_Reg_wideA_1 : decode b_Reg_wideA 1 = .ok (.getfield 13, 3) := by decide +kernel
theorem d_Reg_wideA_4 : decode b_Reg_wideA 4 = .ok (.bipush 32, 2) := by decide +kernel
theorem d_Reg_wideA_6 : decode b_Reg_wideA 6 = .ok (.iand, 1) := by decide +kernel
theorem d_Reg_wideA_7 : decode b_Reg_wideA 7 = .ok (.ifCond .ne 7, 3) := by decide +kernel
theorem d_Reg_wideA_10 : decode b_Reg_wideA 10 = .ok (.iconst 1, 1) := by decide +kernel
theorem d_Reg_wideA_11 : decode b_Reg_wideA 11 = .ok (.goto 4, 3) := by decide +kernel
theorem d_Reg_wideA_14 : decode b_Reg_wideA 14 = .ok (.iconst 0, 1) := by decide +kernel
theorem d_Reg_wideA_15 : decode b_Reg_wideA 15 = .ok (.ireturn, 1) := by decide +kernel
theorem d_Reg_wideIndex_0 : decode b_Reg_wideIndex 0 = .ok (.aload_n 0, 1) := by decide +kernel
theorem d_Reg_wideIndex_1 : decode b_Reg_wideIndex 1 = .ok (.getfield 13, 3) := by decide +kernel
theorem d_Reg_wideIndex_4 : decode b_Reg_wideIndex 4 = .ok (.bipush 16, 2) := by decide +kernel
theorem d_Reg_wideIndex_6 : decode b_Reg_wideIndex 6 = .ok (.iand, 1) := by decide +kernel
theorem d_Reg_wideIndex_7 : decode b_Reg_wideIndex 7 = .ok (.ifCond .ne 7, 3) := by decide +kernel
theorem d_Reg_wideIndex_10 : decode b_Reg_wideIndex 10 = .ok (.iconst 1, 1) := by decide +kernel
theorem d_Reg_wideIndex_11 : decode b_Reg_wideIndex 11 = .ok (.goto 4, 3) := by decide +kernel
theorem d_Reg_wideIndex_14 : decode b_Reg_wideIndex 14 = .ok (.iconst 0, 1) := by decide +kernel
theorem d_Reg_wideIndex_15 : decode b_Reg_wideIndex 15 = .ok (.ireturn, 1) := by decide +kernel
theorem d_Reg_indexMask_0 : decode b_Reg_indexMask 0 = .ok (.aload_n 0, 1) := by decide +kernel
theorem d_Reg_indexMask_1 : decode b_Reg_indexMask 1 = .ok (.invokevirtual 18, 3) := by decide +kernel
theorem d_Reg_indexMask_4 : decode b_Reg_indexMask 4 = .ok (.invokestatic 22, 3) := by decide +kernel
theorem d_Reg_indexMask_7 : decode b_Reg_indexMask 7 = .ok (.ireturn, 1) := by decide +kernel
theorem d_Reg_a_0 : decode b_Reg_a 0 = .ok (.aload_n 0, 1) := by decide +kernel
theorem d_Reg_a_1 : decode b_Reg_a 1 = .ok (.getfield 26, 3) := by decide +kernel
theorem d_Reg_a_4 : decode b_Reg_a 4 = .ok (.aload_n 0, 1) := by decide +kernel
theorem d_Reg_a_5 : decode b_Reg_a 5 = .ok (.invokevirtual 29, 3) := by decide +kernel
theorem d_Reg_a_8 : decode b_Reg_a 8 = .ok (.invokestatic 22, 3) := by decide +kernel
theorem d_Reg_a_11 : decode b_Reg_a 11 = .ok (.iand, 1) := by decide +kernel
theorem d_Reg_a_12 : decode b_Reg_a 12 = .ok (.ireturn, 1) := by decide +kernel
theorem d_Reg_replaceP_0 : decode b_Reg_replaceP 0 = .ok (.aload_n 0, 1) := by decide +kernel
theorem d_Reg_replaceP_1 : decode b_Reg_replaceP 1 = .ok (.iload_n 1, 1) := by decide +kernel
theorem d_Reg_replaceP_2 : decode b_Reg_replaceP 2 = .ok (.putfield 13, 3) := by decide +kernel
theorem d_Reg_replaceP_5 : decode b_Reg_replaceP 5 = .ok (.aload_n 0, 1) := by decide +kernel
theorem d_Reg_replaceP_6 : decode b_Reg_replaceP 6 = .ok (.dup, 1) := by decide +kernel
theorem d_Reg_replaceP_7 : decode b_Reg_replaceP 7 = .ok (.getfield 32, 3) := by decide +kernel
theorem d_Reg_replaceP_10 : decode b_Reg_replaceP 10 = .ok (.aload_n 0, 1) := by decide +kernel
theorem d_Reg_replaceP_11 : decode b_Reg_replaceP 11 = .ok (.invokevirtual 35, 3) := by decide +kernel
theorem d_Reg_replaceP_14 : decode b_Reg_replaceP 14 = .ok (.iand, 1) := by decide +kernel
theorem d_Reg_replaceP_15 : decode b_Reg_replaceP 15 = .ok (.putfield 32, 3) := by decide +kernel
theorem d_Reg_replaceP_18 : decode b_Reg_replaceP 18 = .ok (.aload_n 0, 1) := by decide +kernel
theorem d_Reg_replaceP_19 : decode b_Reg_replaceP 19 = .ok (.dup, 1) := by decide +kernel
theorem d_Reg_replaceP_20 : decode b_Reg_replaceP 20 = .ok (.getfield 39, 3) := by decide +kernel
theorem d_Reg_replaceP_23 : decode b_Reg_replaceP 23 = .ok (.aload_n 0, 1) := by decide +kernel
theorem d_Reg_replaceP_24 : decode b_Reg_replaceP 24 = .ok (.invokevirtual 35, 3) := by decide +kernel
theorem d_Reg_replaceP_27 : decode b_Reg_replaceP 27 = .ok (.iand, 1) := by decide +kernel
theorem d_Reg_replaceP_28 : decode b_Reg_replaceP 28 = .ok (.putfield 39, 3) := by decide +kernel
theorem d_Reg_replaceP_31 : decode b_Reg_replaceP 31 = .ok (.return_, 1) := by decide +kernel
theorem d_Reg_showResult_0 : decode b_Reg_showResult 0 = .ok (.iload_n 1, 1) := by decide +kernel
theorem d_Reg_showResult_1 : decode b_Reg_showResult 1 = .ok (.iload_n 2, 1) := by decide +kernel
theorem d_Reg_showResult_2 : decode b_Reg_showResult 2 = .ok (.invokestatic 42, 3) := by decide +kernel
theorem d_Reg_showResult_5 : decode b_Reg_showResult 5 = .ok (.iand, 1) := by decide +kernel
theorem d_Reg_showResult_6 : decode b_Reg_showResult 6 = .ok (.ifCond .eq 9, 3) := by decide +kernel
theorem d_Reg_showResult_9 : decode b_Reg_showResult 9 = .ok (.sipush 128, 3) := by decide +kernel
theorem d_Reg_showResult_12 : decode b_Reg_showResult 12 = .ok (.goto 4, 3) := by decide +kernel
theorem d_Reg_showResult_15 : decode b_Reg_showResult 15 = .ok (.iconst 0, 1) := by decide +kernel
theorem d_Reg_showResult_16 : decode b_Reg_showResult 16 = .ok (.istore_n 3, 1) := by decide +kernel
theorem d_Reg_showResult_17 : decode b_Reg_showResult 17 = .ok (.iload_n 1, 1) := by decide +kernel
theorem d_Reg_showResult_18 : decode b_Reg_showResult 18 = .ok (.ifCond .ne 7, 3) := by decide +kernel
theorem d_Reg_showResult_21 : decode b_Reg_showResult 21 = .ok (.iconst 2, 1) := by decide +kernel
theorem d_Reg_showResult_22 : decode b_Reg_showResult 22 = .ok (.goto 4, 3) := by decide +kernel
theorem d_Reg_showResult_25 : decode b_Reg_showResult 25 = .ok (.iconst 0, 1) := by decide +kernel
theorem d_Reg_showResult_26 : decode b_Reg_showResult 26 = .ok (.istore 4, 2) := by decide +kernel
theorem d_Reg_showResult_28 : decode b_Reg_showResult 28 = .ok (.aload_n 0, 1) := by decide +kernel
theorem d_Reg_showResult_29 : decode b_Reg_showResult 29 = .ok (.aload_n 0, 1) := by decide +kernel
theorem d_Reg_showResult_30 : decode b_Reg_showResult 30 = .ok (.getfield 13, 3) := by decide +kernel
theorem d_Reg_showResult_33 : decode b_Reg_showResult 33 = .ok (.sipush (-131), 3) := by decide +kernel
theorem d_Reg_showResult_36 : decode b_Reg_showResult 36 = .ok (.iand, 1) := by decide +kernel
theorem d_Reg_showResult_37 : decode b_Reg_showResult 37 = .ok (.iload_n 3, 1) := by decide +kernel
theorem d_Reg_showResult_38 : decode b_Reg_showResult 38 = .ok (.ior, 1) := by decide +kernel
theorem d_Reg_showResult_39 : decode b_Reg_showResult 39 = .ok (.iload 4, 2) := by decide +kernel
theorem d_Reg_showResult_41 : decode b_Reg_showResult 41 = .ok (.ior, 1) := by decide +kernel
theorem d_Reg_showResult_42 : decode b_Reg_showResult 42 = .ok (.putfield 13, 3) := by decide +kernel
theorem d_Reg_showResult_45 : decode b_Reg_showResult 45 = .ok (.return_, 1) := by decide +kernel
theorem d_Reg_loadA_0 : decode b_Reg_loadA 0 = .ok (.aload_n 0, 1) := by decide +kernel
theorem d_Reg_loadA_1 : decode b_Reg_loadA 1 = .ok (.invokevirtual 29, 3) := by decide +kernel
theorem d_Reg_loadA_4 : decode b_Reg_loadA 4 = .ok (.invokestatic 22, 3) := by decide +kernel
theorem d_Reg_loadA_7 : decode b_Reg_loadA 7 = .ok (.istore_n 2, 1) := by decide +kernel
theorem d_Reg_loadA_8 : decode b_Reg_loadA 8 = .ok (.aload_n 0, 1) := by decide +kernel
theorem d_Reg_loadA_9 : decode b_Reg_loadA 9 = .ok (.aload_n 0, 1) := by decide +kernel
theorem d_Reg_loadA_10 : decode b_Reg_loadA 10 = .ok (.getfield 26, 3) := by decide +kernel
theorem d_Reg_loadA_13 : decode b_Reg_loadA 13 = .ok (.iload_n 2, 1) := by decide +kernel
theorem d_Reg_loadA_14 : decode b_Reg_loadA 14 = .ok (.iconst (-1), 1) := by decide +kernel
theorem d_Reg_loadA_15 : decode b_Reg_loadA 15 = .ok (.ixor, 1) := by decide +kernel
theorem d_Reg_loadA_16 : decode b_Reg_loadA 16 = .ok (.iand, 1) := by decide +kernel
theorem d_Reg_loadA_17 : decode b_Reg_loadA 17 = .ok (.iload_n 1, 1) := by decide +kernel
theorem d_Reg_loadA_18 : decode b_Reg_loadA 18 = .ok (.iload_n 2, 1) := by decide +kernel
theorem d_Reg_loadA_19 : decode b_Reg_loadA 19 = .ok (.iand, 1) := by decide +kernel
theorem d_Reg_loadA_20 : decode b_Reg_loadA 20 = .ok (.ior, 1) := by decide +kernel
theorem d_Reg_loadA_21 : decode b_Reg_loadA 21 = .ok (.putfield 26, 3) := by decide +kernel
theorem d_Reg_loadA_24 : decode b_Reg_loadA 24 = .ok (.aload_n 0, 1) := by decide +kernel
theorem d_Reg_loadA_25 : decode b_Reg_loadA 25 = .ok (.iload_n 1, 1) := by decide +kernel
theorem d_Reg_loadA_26 : decode b_Reg_loadA 26 = .ok (.iload_n 2, 1) := by decide +kernel
theorem d_Reg_loadA_27 : decode b_Reg_loadA 27 = .ok (.iand, 1) := by decide +kernel
theorem d_Reg_loadA_28 : decode b_Reg_loadA 28 = .ok (.aload_n 0, 1) := by decide +kernel
theorem d_Reg_loadA_29 : decode b_Reg_loadA 29 = .ok (.invokevirtual 29, 3) := by decide +kernel
theorem d_Reg_loadA_32 : decode b_Reg_loadA 32 = .ok (.invokevirtual 45, 3) := by decide +kernel
theorem d_Reg_loadA_35 : decode b_Reg_loadA 35 = .ok (.return_, 1) := by decide +kernel
theorem d_Reg_loadX_0 : decode b_Reg_loadX 0 = .ok (.aload_n 0, 1) := by decide +kernel
theorem d_Reg_loadX_1 : decode b_Reg_loadX 1 = .ok (.iload_n 1, 1) := by decide +kernel
theorem d_Reg_loadX_2 : decode b_Reg_loadX 2 = .ok (.aload_n 0, 1) := by decide +kernel
theorem d_Reg_loadX_3 : decode b_Reg_loadX 3 = .ok (.invokevirtual 35, 3) := by decide +kernel
theorem d_Reg_loadX_6 : decode b_Reg_loadX 6 = .ok (.iand, 1) := by decide +kernel
theorem d_Reg_loadX_7 : decode b_Reg_loadX 7 = .ok (.putfield 32, 3) := by decide +kernel
theorem d_Reg_loadX_10 : decode b_Reg_loadX 10 = .ok (.aload_n 0, 1) := by decide +kernel
theorem d_Reg_loadX_11 : decode b_Reg_loadX 11 = .ok (.aload_n 0, 1) := by decide +kernel
theorem d_Reg_loadX_12 : decode b_Reg_loadX 12 = .ok (.getfield 32, 3) := by decide +kernel
theorem d_Reg_loadX_15 : decode b_Reg_loadX 15 = .ok (.aload_n 0, 1) := by decide +kernel
theorem d_Reg_loadX_16 : decode b_Reg_loadX 16 = .ok (.invokevirtual 18, 3) := by decide +kernel
theorem d_Reg_loadX_19 : decode b_Reg_loadX 19 = .ok (.invokevirtual 45, 3) := by decide +kernel
theorem d_Reg_loadX_22 : decode b_Reg_loadX 22 = .ok (.return_, 1) := by decide +kernel
theorem d_Reg_loadY_0 : decode b_Reg_loadY 0 = .ok (.aload_n 0, 1) := by decide +kernel
theorem d_Reg_loadY_1 : decode b_Reg_loadY 1 = .ok (.iload_n 1, 1) := by decide +kernel
theorem d_Reg_loadY_2 : decode b_Reg_loadY 2 = .ok (.aload_n 0, 1) := by decide +kernel
theorem d_Reg_loadY_3 : decode b_Reg_loadY 3 = .ok (.invokevirtual 35, 3) := by decide +kernel
theorem d_Reg_loadY_6 : decode b_Reg_loadY 6 = .ok (.iand, 1) := by decide +kernel
theorem d_Reg_loadY_7 : decode b_Reg_loadY 7 = .ok (.putfield 39, 3) := by decide +kernel
theorem d_Reg_loadY_10 : decode b_Reg_loadY 10 = .ok (.aload_n 0, 1) := by decide +kernel
theorem d_Reg_loadY_11 : decode b_Reg_loadY 11 = .ok (.aload_n 0, 1) := by decide +kernel
theorem d_Reg_loadY_12 : decode b_Reg_loadY 12 = .ok (.getfield 39, 3) := by decide +kernel
theorem d_Reg_loadY_15 : decode b_Reg_loadY 15 = .ok (.aload_n 0, 1) := by decide +kernel
theorem d_Reg_loadY_16 : decode b_Reg_loadY 16 = .ok (.invokevirtual 18, 3) := by decide +kernel
theorem d_Reg_loadY_19 : decode b_Reg_loadY 19 = .ok (.invokevirtual 45, 3) := by decide +kernel
theorem d_Reg_loadY_22 : decode b_Reg_loadY 22 = .ok (.return_, 1) := by decide +kernel
theorem d_Reg_loadC_0 : decode b_Reg_loadC 0 = .ok (.aload_n 0, 1) := by decide +kernel
theorem d_Reg_loadC_1 : decode b_Reg_loadC 1 = .ok (.iload_n 1, 1) := by decide +kernel
theorem d_Reg_loadC_2 : decode b_Reg_loadC 2 = .ok (.putfield 26, 3) := by decide +kernel
theorem d_Reg_loadC_5 : decode b_Reg_loadC 5 = .ok (.aload_n 0, 1) := by decide +kernel
theorem d_Reg_loadC_6 : decode b_Reg_loadC 6 = .ok (.aload_n 0, 1) := by decide +kernel
theorem d_Reg_loadC_7 : decode b_Reg_loadC 7 = .ok (.getfield 26, 3) := by decide +kernel
theorem d_Reg_loadC_10 : decode b_Reg_loadC 10 = .ok (.iconst 1, 1) := by decide +kernel
theorem d_Reg_loadC_11 : decode b_Reg_loadC 11 = .ok (.invokevirtual 45, 3) := by decide +kernel
theorem d_Reg_loadC_14 : decode b_Reg_loadC 14 = .ok (.return_, 1) := by decide +kernel
theorem d_Reg_loadD_0 : decode b_Reg_loadD 0 = .ok (.aload_n 0, 1) := by decide +kernel
theorem d_Reg_loadD_1 : decode b_Reg_loadD 1 = .ok (.iload_n 1, 1) := by decide +kernel
theorem d_Reg_loadD_2 : decode b_Reg_loadD 2 = .ok (.putfield 49, 3) := by decide +kernel
theorem d_Reg_loadD_5 : decode b_Reg_loadD 5 = .ok (.aload_n 0, 1) := by decide +kernel
theorem d_Reg_loadD_6 : decode b_Reg_loadD 6 = .ok (.aload_n 0, 1) := by decide +kernel
theorem d_Reg_loadD_7 : decode b_Reg_loadD 7 = .ok (.getfield 49, 3) := by decide +kernel
theorem d_Reg_loadD_10 : decode b_Reg_loadD 10 = .ok (.iconst 1, 1) := by decide +kernel
theorem d_Reg_loadD_11 : decode b_Reg_loadD 11 = .ok (.invokevirtual 45, 3) := by decide +kernel
theorem d_Reg_loadD_14 : decode b_Reg_loadD 14 = .ok (.return_, 1) := by decide +kernel
theorem d_Reg_loadDataBank_0 : decode b_Reg_loadDataBank 0 = .ok (.aload_n 0, 1) := by decide +kernel
theorem d_Reg_loadDataBank_1 : decode b_Reg_loadDataBank 1 = .ok (.iload_n 1, 1) := by decide +kernel
theorem d_Reg_loadDataBank_2 : decode b_Reg_loadDataBank 2 = .ok (.putfield 52, 3) := by decide +kernel
theorem d_Reg_loadDataBank_5 : decode b_Reg_loadDataBank 5 = .ok (.aload_n 0, 1) := by decide +kernel
theorem d_Reg_loadDataBank_6 : decode b_Reg_loadDataBank 6 = .ok (.aload_n 0, 1) := by decide +kernel
theorem d_Reg_loadDataBank_7 : decode b_Reg_loadDataBank 7 = .ok (.getfield 52, 3) := by decide +kernel
theorem d_Reg_loadDataBank_10 : decode b_Reg_loadDataBank 10 = .ok (.iconst 0, 1) := by decide +kernel
theorem d_Reg_loadDataBank_11 : decode b_Reg_loadDataBank 11 = .ok (.invokevirtual 45, 3) := by decide +kernel
theorem d_Reg_loadDataBank_14 : decode b_Reg_loadDataBank 14 = .ok (.return_, 1) := by decide +kernel
theorem d_Reg_jumpTo_0 : decode b_Reg_jumpTo 0 = .ok (.aload_n 0, 1) := by decide +kernel
theorem d_Reg_jumpTo_1 : decode b_Reg_jumpTo 1 = .ok (.iload_n 1, 1) := by decide +kernel
theorem d_Reg_jumpTo_2 : decode b_Reg_jumpTo 2 = .ok (.ldc 16, 2) := by decide +kernel
theorem d_Reg_jumpTo_4 : decode b_Reg_jumpTo 4 = .ok (.iand, 1) := by decide +kernel
theorem d_Reg_jumpTo_5 : decode b_Reg_jumpTo 5 = .ok (.putfield 55, 3) := by decide +kernel
theorem d_Reg_jumpTo_8 : decode b_Reg_jumpTo 8 = .ok (.return_, 1) := by decide +kernel
theorem d_Reg_jumpLong_0 : decode b_Reg_jumpLong 0 = .ok (.aload_n 0, 1) := by decide +kernel
theorem d_Reg_jumpLong_1 : decode b_Reg_jumpLong 1 = .ok (.iload_n 1, 1) := by decide +kernel
theorem d_Reg_jumpLong_2 : decode b_Reg_jumpLong 2 = .ok (.bipush 16, 2) := by decide +kernel
theorem d_Reg_jumpLong_4 : decode b_Reg_jumpLong 4 = .ok (.ishr, 1) := by decide +kernel
theorem d_Reg_jumpLong_5 : decode b_Reg_jumpLong 5 = .ok (.putfield 58, 3) := by decide +kernel
theorem d_Reg_jumpLong_8 : decode b_Reg_jumpLong 8 = .ok (.aload_n 0, 1) := by decide +kernel
theorem d_Reg_jumpLong_9 : decode b_Reg_jumpLong 9 = .ok (.iload_n 1, 1) := by decide +kernel
theorem d_Reg_jumpLong_10 : decode b_Reg_jumpLong 10 = .ok (.ldc 16, 2) := by decide +kernel
theorem d_Reg_jumpLong_12 : decode b_Reg_jumpLong 12 = .ok (.iand, 1) := by decide +kernel
theorem d_Reg_jumpLong_13 : decode b_Reg_jumpLong 13 = .ok (.putfield 55, 3) := by decide +kernel
theorem d_Reg_jumpLong_16 : decode b_Reg_jumpLong 16 = .ok (.return_, 1) := by decide +kernel
