theorem d_Stk_init_0 : decode b_Stk_init 0 = .ok (.aload_n 0, 1) := by decide +kernel
theorem d_Stk_init_1 : decode b_Stk_init 1 = .ok (.invokespecial 1, 3) := by decide +kernel
theorem d_Stk_init_4 : decode b_Stk_init 4 = .ok (.aload_n 0, 1) := by decide +kernel
theorem d_Stk_init_5 : decode b_Stk_init 5 = .ok (.aload_n 1, 1) := by decide +kernel
theorem d_Stk_init_6 : decode b_Stk_init 6 = .ok (.putfield 7, 3) := by decide +kernel
theorem d_Stk_init_9 : decode b_Stk_init 9 = .ok (.aload_n 0, 1) := by decide +kernel
theorem d_Stk_init_10 : decode b_Stk_init 10 = .ok (.aload_n 2, 1) := by decide +kernel
theorem d_Stk_init_11 : decode b_Stk_init 11 = .ok (.putfield 13, 3) := by decide +kernel
theorem d_Stk_init_14 : decode b_Stk_init 14 = .ok (.return_, 1) := by decide +kernel
theorem d_Stk_pushByte_0 : decode b_Stk_pushByte 0 = .ok (.aload_n 0, 1) := by decide +kernel
theorem d_Stk_pushByte_1 : decode b_Stk_pushByte 1 = .ok (.getfield 7, 3) := by decide +kernel
theorem d_Stk_pushByte_4 : decode b_Stk_pushByte 4 = .ok (.aload_n 0, 1) := by decide +kernel
theorem d_Stk_pushByte_5 : decode b_Stk_pushByte 5 = .ok (.getfield 13, 3) := by decide +kernel
theorem d_Stk_pushByte_8 : decode b_Stk_pushByte 8 = .ok (.getfield 17, 3) := by decide +kernel
theorem d_Stk_pushByte_11 : decode b_Stk_pushByte 11 = .ok (.invokestatic 23, 3) := by decide +kernel
theorem d_Stk_pushByte_14 : decode b_Stk_pushByte 14 = .ok (.iload_n 1, 1) := by decide +kernel
theorem d_Stk_pushByte_15 : decode b_Stk_pushByte 15 = .ok (.invokevirtual 29, 3) := by decide +kernel
theorem d_Stk_pushByte_18 : decode b_Stk_pushByte 18 = .ok (.aload_n 0, 1) := by decide +kernel
theorem d_Stk_pushByte_19 : decode b_Stk_pushByte 19 = .ok (.getfield 13, 3) := by decide +kernel
theorem d_Stk_pushByte_22 : decode b_Stk_pushByte 22 = .ok (.aload_n 0, 1) := by decide +kernel
theorem d_Stk_pushByte_23 : decode b_Stk_pushByte 23 = .ok (.getfield 13, 3) := by decide +kernel
theorem d_Stk_pushByte_26 : decode b_Stk_pushByte 26 = .ok (.getfield 17, 3) := by decide +kernel
theorem d_Stk_pushByte_29 : decode b_Stk_pushByte 29 = .ok (.iconst 1, 1) := by decide +kernel
theorem d_Stk_pushByte_30 : decode b_Stk_pushByte 30 = .ok (.isub, 1) := by decide +kernel
theorem d_Stk_pushByte_31 : decode b_Stk_pushByte 31 = .ok (.ldc 33, 2) := by decide +kernel
theorem d_Stk_pushByte_33 : decode b_Stk_pushByte 33 = .ok (.iand, 1) := by decide +kernel
theorem d_Stk_pushByte_34 : decode b_Stk_pushByte 34 = .ok (.putfield 17, 3) := by decide +kernel
theorem d_Stk_pushByte_37 : decode b_Stk_pushByte 37 = .ok (.return_, 1) := by decide +kernel
theorem d_Stk_pushWord_0 : decode b_Stk_pushWord 0 = .ok (.aload_n 0, 1) := by decide +kernel
theorem d_Stk_pushWord_1 : decode b_Stk_pushWord 1 = .ok (.iload_n 1, 1) := by decide +kernel
theorem d_Stk_pushWord_2 : decode b_Stk_pushWord 2 = .ok (.bipush 8, 2) := by decide +kernel
theorem d_Stk_pushWord_4 : decode b_Stk_pushWord 4 = .ok (.ishr, 1) := by decide +kernel
theorem d_Stk_pushWord_5 : decode b_Stk_pushWord 5 = .ok (.invokevirtual 34, 3) := by decide +kernel
theorem d_Stk_pushWord_8 : decode b_Stk_pushWord 8 = .ok (.aload_n 0, 1) := by decide +kernel
theorem d_Stk_pushWord_9 : decode b_Stk_pushWord 9 = .ok (.iload_n 1, 1) := by decide +kernel
theorem d_Stk_pushWord_10 : decode b_Stk_pushWord 10 = .ok (.invokevirtual 34, 3) := by decide +kernel
theorem d_Stk_pushWord_13 : decode b_Stk_pushWord 13 = .ok (.return_, 1) := by decide +kernel
theorem d_Stk_pushValue_0 : decode b_Stk_pushValue 0 = .ok (.iload_n 2, 1) := by decide +kernel
theorem d_Stk_pushValue_1 : decode b_Stk_pushValue 1 = .ok (.ifCond .eq 11, 3) := by decide +kernel
theorem d_Stk_pushValue_4 : decode b_Stk_pushValue 4 = .ok (.aload_n 0, 1) := by decide +kernel
theorem d_Stk_pushValue_5 : decode b_Stk_pushValue 5 = .ok (.iload_n 1, 1) := by decide +kernel
theorem d_Stk_pushValue_6 : decode b_Stk_pushValue 6 = .ok (.bipush 8, 2) := by decide +kernel
theorem d_Stk_pushValue_8 : decode b_Stk_pushValue 8 = .ok (.ishr, 1) := by decide +kernel
theorem d_Stk_pushValue_9 : decode b_Stk_pushValue 9 = .ok (.invokevirtual 34, 3) := by decide +kernel
theorem d_Stk_pushValue_12 : decode b_Stk_pushValue 12 = .ok (.aload_n 0, 1) := by decide +kernel
theorem d_Stk_pushValue_13 : decode b_Stk_pushValue 13 = .ok (.iload_n 1, 1) := by decide +kernel
theorem d_Stk_pushValue_14 : decode b_Stk_pushValue 14 = .ok (.invokevirtual 34, 3) := by decide +kernel
theorem d_Stk_pushValue_17 : decode b_Stk_pushValue 17 = .ok (.return_, 1) := by decide +kernel
theorem d_Stk_pullByte_0 : decode b_Stk_pullByte 0 = .ok (.aload_n 0, 1) := by decide +kernel
theorem d_Stk_pullByte_1 : decode b_Stk_pullByte 1 = .ok (.getfield 13, 3) := by decide +kernel
theorem d_Stk_pullByte_4 : decode b_Stk_pullByte 4 = .ok (.aload_n 0, 1) := by decide +kernel
theorem d_Stk_pullByte_5 : decode b_Stk_pullByte 5 = .ok (.getfield 13, 3) := by decide +kernel
theorem d_Stk_pullByte_8 : decode b_Stk_pullByte 8 = .ok (.getfield 17, 3) := by decide +kernel
theorem d_Stk_pullByte_11 : decode b_Stk_pullByte 11 = .ok (.iconst 1, 1) := by decide +kernel
theorem d_Stk_pullByte_12 : decode b_Stk_pullByte 12 = .ok (.iadd, 1) := by decide +kernel
theorem d_Stk_pullByte_13 : decode b_Stk_pullByte 13 = .ok (.ldc 33, 2) := by decide +kernel
theorem d_Stk_pullByte_15 : decode b_Stk_pullByte 15 = .ok (.iand, 1) := by decide +kernel
theorem d_Stk_pullByte_16 : decode b_Stk_pullByte 16 = .ok (.putfield 17, 3) := by decide +kernel
theorem d_Stk_pullByte_19 : decode b_Stk_pullByte 19 = .ok (.aload_n 0, 1) := by decide +kernel
theorem d_Stk_pullByte_20 : decode b_Stk_pullByte 20 = .ok (.getfield 7, 3) := by decide +kernel
theorem d_Stk_pullByte_23 : decode b_Stk_pullByte 23 = .ok (.aload_n 0, 1) := by decide +kernel
theorem d_Stk_pullByte_24 : decode b_Stk_pullByte 24 = .ok (.getfield 13, 3) := by decide +kernel
theorem d_Stk_pullByte_27 : decode b_Stk_pullByte 27 = .ok (.getfield 17, 3) := by decide +kernel
theorem d_Stk_pullByte_30 : decode b_Stk_pullByte 30 = .ok (.invokestatic 23, 3) := by decide +kernel
theorem d_Stk_pullByte_33 : decode b_Stk_pullByte 33 = .ok (.invokevirtual 38, 3) := by decide +kernel
theorem d_Stk_pullByte_36 : decode b_Stk_pullByte 36 = .ok (.ireturn, 1) := by decide +kernel
theorem d_Stk_pullWord_0 : decode b_Stk_pullWord 0 = .ok (.aload_n 0, 1) := by decide +kernel
theorem d_Stk_pullWord_1 : decode b_Stk_pullWord 1 = .ok (.invokevirtual 41, 3) := by decide +kernel
theorem d_Stk_pullWord_4 : decode b_Stk_pullWord 4 = .ok (.istore_n 1, 1) := by decide +kernel
theorem d_Stk_pullWord_5 : decode b_Stk_pullWord 5 = .ok (.iload_n 1, 1) := by decide +kernel
theorem d_Stk_pullWord_6 : decode b_Stk_pullWord 6 = .ok (.aload_n 0, 1) := by decide +kernel
theorem d_Stk_pullWord_7 : decode b_Stk_pullWord 7 = .ok (.invokevirtual 41, 3) := by decide +kernel
theorem d_Stk_pullWord_10 : decode b_Stk_pullWord 10 = .ok (.bipush 8, 2) := by decide +kernel
theorem d_Stk_pullWord_12 : decode b_Stk_pullWord 12 = .ok (.ishl, 1) := by decide +kernel
theorem d_Stk_pullWord_13 : decode b_Stk_pullWord 13 = .ok (.ior, 1) := by decide +kernel
theorem d_Stk_pullWord_14 : decode b_Stk_pullWord 14 = .ok (.ireturn, 1) := by decide +kernel
theorem d_Stk_pullValue_0 : decode b_Stk_pullValue 0 = .ok (.iload_n 1, 1) := by decide +kernel
theorem d_Stk_pullValue_1 : decode b_Stk_pullValue 1 = .ok (.ifCond .eq 10, 3) := by decide +kernel
theorem d_Stk_pullValue_4 : decode b_Stk_pullValue 4 = .ok (.aload_n 0, 1) := by decide +kernel
theorem d_Stk_pullValue_5 : decode b_Stk_pullValue 5 = .ok (.invokevirtual 45, 3) := by decide +kernel
theorem d_Stk_pullValue_8 : decode b_Stk_pullValue 8 = .ok (.goto 7, 3) := by decide +kernel
theorem d_Stk_pullValue_11 : decode b_Stk_pullValue 11 = .ok (.aload_n 0, 1) := by decide +kernel
theorem d_Stk_pullValue_12 : decode b_Stk_pullValue 12 = .ok (.invokevirtual 41, 3) := by decide +kernel
theorem d_Stk_pullValue_15 : decode b_Stk_pullValue 15 = .ok (.ireturn, 1) := by decide +kernel
