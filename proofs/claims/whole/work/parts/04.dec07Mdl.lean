theorem d_Mdl_init_0 : decode b_Mdl_init 0 = .ok (.aload_n 0, 1) := by decide +kernel
theorem d_Mdl_init_1 : decode b_Mdl_init 1 = .ok (.invokespecial 1, 3) := by decide +kernel
theorem d_Mdl_init_4 : decode b_Mdl_init 4 = .ok (.aload_n 0, 1) := by decide +kernel
theorem d_Mdl_init_5 : decode b_Mdl_init 5 = .ok (.sipush 1024, 3) := by decide +kernel
theorem d_Mdl_init_8 : decode b_Mdl_init 8 = .ok (.newarray .int, 2) := by decide +kernel
theorem d_Mdl_init_10 : decode b_Mdl_init 10 = .ok (.putfield 7, 3) := by decide +kernel
theorem d_Mdl_init_13 : decode b_Mdl_init 13 = .ok (.aload_n 0, 1) := by decide +kernel
theorem d_Mdl_init_14 : decode b_Mdl_init 14 = .ok (.sipush 255, 3) := by decide +kernel
theorem d_Mdl_init_17 : decode b_Mdl_init 17 = .ok (.putfield 13, 3) := by decide +kernel
theorem d_Mdl_init_20 : decode b_Mdl_init 20 = .ok (.aload_n 0, 1) := by decide +kernel
theorem d_Mdl_init_21 : decode b_Mdl_init 21 = .ok (.bipush 52, 2) := by decide +kernel
theorem d_Mdl_init_23 : decode b_Mdl_init 23 = .ok (.putfield 17, 3) := by decide +kernel
theorem d_Mdl_init_26 : decode b_Mdl_init 26 = .ok (.aload_n 0, 1) := by decide +kernel
theorem d_Mdl_init_27 : decode b_Mdl_init 27 = .ok (.bipush 8, 2) := by decide +kernel
theorem d_Mdl_init_29 : decode b_Mdl_init 29 = .ok (.newarray .int, 2) := by decide +kernel
theorem d_Mdl_init_31 : decode b_Mdl_init 31 = .ok (.putfield 20, 3) := by decide +kernel
theorem d_Mdl_init_34 : decode b_Mdl_init 34 = .ok (.return_, 1) := by decide +kernel
theorem d_Mdl_is_0 : decode b_Mdl_is 0 = .ok (.aload_n 0, 1) := by decide +kernel
theorem d_Mdl_is_1 : decode b_Mdl_is 1 = .ok (.getfield 17, 3) := by decide +kernel
theorem d_Mdl_is_4 : decode b_Mdl_is 4 = .ok (.iload_n 1, 1) := by decide +kernel
theorem d_Mdl_is_5 : decode b_Mdl_is 5 = .ok (.iand, 1) := by decide +kernel
theorem d_Mdl_is_6 : decode b_Mdl_is 6 = .ok (.ifCond .eq 7, 3) := by decide +kernel
theorem d_Mdl_is_9 : decode b_Mdl_is 9 = .ok (.iconst 1, 1) := by decide +kernel
theorem d_Mdl_is_10 : decode b_Mdl_is 10 = .ok (.goto 4, 3) := by decide +kernel
theorem d_Mdl_is_13 : decode b_Mdl_is 13 = .ok (.iconst 0, 1) := by decide +kernel
theorem d_Mdl_is_14 : decode b_Mdl_is 14 = .ok (.ireturn, 1) := by decide +kernel
theorem d_Mdl_flag_0 : decode b_Mdl_flag 0 = .ok (.aload_n 0, 1) := by decide +kernel
theorem d_Mdl_flag_1 : decode b_Mdl_flag 1 = .ok (.iload_n 2, 1) := by decide +kernel
theorem d_Mdl_flag_2 : decode b_Mdl_flag 2 = .ok (.ifCond .eq 12, 3) := by decide +kernel
theorem d_Mdl_flag_5 : decode b_Mdl_flag 5 = .ok (.aload_n 0, 1) := by decide +kernel
theorem d_Mdl_flag_6 : decode b_Mdl_flag 6 = .ok (.getfield 17, 3) := by decide +kernel
theorem d_Mdl_flag_9 : decode b_Mdl_flag 9 = .ok (.iload_n 1, 1) := by decide +kernel
theorem d_Mdl_flag_10 : decode b_Mdl_flag 10 = .ok (.ior, 1) := by decide +kernel
theorem d_Mdl_flag_11 : decode b_Mdl_flag 11 = .ok (.goto 11, 3) := by decide +kernel
theorem d_Mdl_flag_14 : decode b_Mdl_flag 14 = .ok (.aload_n 0, 1) := by decide +kernel
theorem d_Mdl_flag_15 : decode b_Mdl_flag 15 = .ok (.getfield 17, 3) := by decide +kernel
theorem d_Mdl_flag_18 : decode b_Mdl_flag 18 = .ok (.iload_n 1, 1) := by decide +kernel
theorem d_Mdl_flag_19 : decode b_Mdl_flag 19 = .ok (.iconst (-1), 1) := by decide +kernel
theorem d_Mdl_flag_20 : decode b_Mdl_flag 20 = .ok (.ixor, 1) := by decide +kernel
theorem d_Mdl_flag_21 : decode b_Mdl_flag 21 = .ok (.iand, 1) := by decide +kernel
theorem d_Mdl_flag_22 : decode b_Mdl_flag 22 = .ok (.putfield 17, 3) := by decide +kernel
theorem d_Mdl_flag_25 : decode b_Mdl_flag 25 = .ok (.return_, 1) := by decide +kernel
theorem d_Mdl_cell_0 : decode b_Mdl_cell 0 = .ok (.sipush 512, 3) := by decide +kernel
theorem d_Mdl_cell_3 : decode b_Mdl_cell 3 = .ok (.iload_n 0, 1) := by decide +kernel
theorem d_Mdl_cell_4 : decode b_Mdl_cell 4 = .ok (.bipush 16, 2) := by decide +kernel
theorem d_Mdl_cell_6 : decode b_Mdl_cell 6 = .ok (.ishr, 1) := by decide +kernel
theorem d_Mdl_cell_7 : decode b_Mdl_cell 7 = .ok (.iconst 1, 1) := by decide +kernel
theorem d_Mdl_cell_8 : decode b_Mdl_cell 8 = .ok (.iand, 1) := by decide +kernel
theorem d_Mdl_cell_9 : decode b_Mdl_cell 9 = .ok (.imul, 1) := by decide +kernel
theorem d_Mdl_cell_10 : decode b_Mdl_cell 10 = .ok (.iload_n 0, 1) := by decide +kernel
theorem d_Mdl_cell_11 : decode b_Mdl_cell 11 = .ok (.sipush 511, 3) := by decide +kernel
theorem d_Mdl_cell_14 : decode b_Mdl_cell 14 = .ok (.iand, 1) := by decide +kernel
theorem d_Mdl_cell_15 : decode b_Mdl_cell 15 = .ok (.iadd, 1) := by decide +kernel
theorem d_Mdl_cell_16 : decode b_Mdl_cell 16 = .ok (.ireturn, 1) := by decide +kernel
theorem d_Mdl_touch_0 : decode b_Mdl_touch 0 = .ok (.bipush 7, 2) := by decide +kernel
theorem d_Mdl_touch_2 : decode b_Mdl_touch 2 = .ok (.istore_n 2, 1) := by decide +kernel
theorem d_Mdl_touch_3 : decode b_Mdl_touch 3 = .ok (.iload_n 2, 1) := by decide +kernel
theorem d_Mdl_touch_4 : decode b_Mdl_touch 4 = .ok (.ifCond .le 23, 3) := by decide +kernel
theorem d_Mdl_touch_7 : decode b_Mdl_touch 7 = .ok (.aload_n 0, 1) := by decide +kernel
theorem d_Mdl_touch_8 : decode b_Mdl_touch 8 = .ok (.getfield 20, 3) := by decide +kernel
theorem d_Mdl_touch_11 : decode b_Mdl_touch 11 = .ok (.iload_n 2, 1) := by decide +kernel
theorem d_Mdl_touch_12 : decode b_Mdl_touch 12 = .ok (.aload_n 0, 1) := by decide +kernel
theorem d_Mdl_touch_13 : decode b_Mdl_touch 13 = .ok (.getfield 20, 3) := by decide +kernel
theorem d_Mdl_touch_16 : decode b_Mdl_touch 16 = .ok (.iload_n 2, 1) := by decide +kernel
theorem d_Mdl_touch_17 : decode b_Mdl_touch 17 = .ok (.iconst 1, 1) := by decide +kernel
theorem d_Mdl_touch_18 : decode b_Mdl_touch 18 = .ok (.isub, 1) := by decide +kernel
theorem d_Mdl_touch_19 : decode b_Mdl_touch 19 = .ok (.iaload, 1) := by decide +kernel
theorem d_Mdl_touch_20 : decode b_Mdl_touch 20 = .ok (.iastore, 1) := by decide +kernel
theorem d_Mdl_touch_21 : decode b_Mdl_touch 21 = .ok (.iinc 2 (-1), 3) := by decide +kernel
theorem d_Mdl_touch_24 : decode b_Mdl_touch 24 = .ok (.goto (-21), 3) := by decide +kernel
theorem d_Mdl_touch_27 : decode b_Mdl_touch 27 = .ok (.aload_n 0, 1) := by decide +kernel
theorem d_Mdl_touch_28 : decode b_Mdl_touch 28 = .ok (.getfield 20, 3) := by decide +kernel
theorem d_Mdl_touch_31 : decode b_Mdl_touch 31 = .ok (.iconst 0, 1) := by decide +kernel
theorem d_Mdl_touch_32 : decode b_Mdl_touch 32 = .ok (.iload_n 1, 1) := by decide +kernel
theorem d_Mdl_touch_33 : decode b_Mdl_touch 33 = .ok (.iastore, 1) := by decide +kernel
theorem d_Mdl_touch_34 : decode b_Mdl_touch 34 = .ok (.aload_n 0, 1) := by decide +kernel
theorem d_Mdl_touch_35 : decode b_Mdl_touch 35 = .ok (.dup, 1) := by decide +kernel
theorem d_Mdl_touch_36 : decode b_Mdl_touch 36 = .ok (.getfield 23, 3) := by decide +kernel
theorem d_Mdl_touch_39 : decode b_Mdl_touch 39 = .ok (.iconst 1, 1) := by decide +kernel
theorem d_Mdl_touch_40 : decode b_Mdl_touch 40 = .ok (.iadd, 1) := by decide +kernel
theorem d_Mdl_touch_41 : decode b_Mdl_touch 41 = .ok (.putfield 23, 3) := by decide +kernel
theorem d_Mdl_touch_44 : decode b_Mdl_touch 44 = .ok (.return_, 1) := by decide +kernel
theorem d_Mdl_read_0 : decode b_Mdl_read 0 = .ok (.aload_n 0, 1) := by decide +kernel
theorem d_Mdl_read_1 : decode b_Mdl_read 1 = .ok (.iload_n 1, 1) := by decide +kernel
theorem d_Mdl_read_2 : decode b_Mdl_read 2 = .ok (.invokestatic 26, 3) := by decide +kernel
theorem d_Mdl_read_5 : decode b_Mdl_read 5 = .ok (.invokevirtual 30, 3) := by decide +kernel
theorem d_Mdl_read_8 : decode b_Mdl_read 8 = .ok (.aload_n 0, 1) := by decide +kernel
theorem d_Mdl_read_9 : decode b_Mdl_read 9 = .ok (.getfield 7, 3) := by decide +kernel
theorem d_Mdl_read_12 : decode b_Mdl_read 12 = .ok (.iload_n 1, 1) := by decide +kernel
theorem d_Mdl_read_13 : decode b_Mdl_read 13 = .ok (.invokestatic 26, 3) := by decide +kernel
theorem d_Mdl_read_16 : decode b_Mdl_read 16 = .ok (.iaload, 1) := by decide +kernel
theorem d_Mdl_read_17 : decode b_Mdl_read 17 = .ok (.ireturn, 1) := by decide +kernel
theorem d_Mdl_write_0 : decode b_Mdl_write 0 = .ok (.aload_n 0, 1) := by decide +kernel
theorem d_Mdl_write_1 : decode b_Mdl_write 1 = .ok (.iload_n 1, 1) := by decide +kernel
theorem d_Mdl_write_2 : decode b_Mdl_write 2 = .ok (.invokestatic 26, 3) := by decide +kernel
theorem d_Mdl_write_5 : decode b_Mdl_write 5 = .ok (.sipush 1024, 3) := by decide +kernel
theorem d_Mdl_write_8 : decode b_Mdl_write 8 = .ok (.iadd, 1) := by decide +kernel
theorem d_Mdl_write_9 : decode b_Mdl_write 9 = .ok (.invokevirtual 30, 3) := by decide +kernel
theorem d_Mdl_write_12 : decode b_Mdl_write 12 = .ok (.aload_n 0, 1) := by decide +kernel
theorem d_Mdl_write_13 : decode b_Mdl_write 13 = .ok (.getfield 7, 3) := by decide +kernel
theorem d_Mdl_write_16 : decode b_Mdl_write 16 = .ok (.iload_n 1, 1) := by decide +kernel
theorem d_Mdl_write_17 : decode b_Mdl_write 17 = .ok (.invokestatic 26, 3) := by decide +kernel
theorem d_Mdl_write_20 : decode b_Mdl_write 20 = .ok (.iload_n 2, 1) := by decide +kernel
theorem d_Mdl_write_21 : decode b_Mdl_write 21 = .ok (.sipush 255, 3) := by decide +kernel
theorem d_Mdl_write_24 : decode b_Mdl_write 24 = .ok (.iand, 1) := by decide +kernel
theorem d_Mdl_write_25 : decode b_Mdl_write 25 = .ok (.iastore, 1) := by decide +kernel
theorem d_Mdl_write_26 : decode b_Mdl_write 26 = .ok (.return_, 1) := by decide +kernel
theorem d_Mdl_after_0 : decode b_Mdl_after 0 = .ok (.iload_n 2, 1) := by decide +kernel
theorem d_Mdl_after_1 : decode b_Mdl_after 1 = .ok (.ifCond .eq 17, 3) := by decide +kernel
theorem d_Mdl_after_4 : decode b_Mdl_after 4 = .ok (.iload_n 1, 1) := by decide +kernel
theorem d_Mdl_after_5 : decode b_Mdl_after 5 = .ok (.ldc 34, 2) := by decide +kernel
theorem d_Mdl_after_7 : decode b_Mdl_after 7 = .ok (.iand, 1) := by decide +kernel
theorem d_Mdl_after_8 : decode b_Mdl_after 8 = .ok (.iload_n 1, 1) := by decide +kernel
theorem d_Mdl_after_9 : decode b_Mdl_after 9 = .ok (.iconst 1, 1) := by decide +kernel
theorem d_Mdl_after_10 : decode b_Mdl_after 10 = .ok (.iadd, 1) := by decide +kernel
theorem d_Mdl_after_11 : decode b_Mdl_after 11 = .ok (.ldc 35, 2) := by decide +kernel
theorem d_Mdl_after_13 : decode b_Mdl_after 13 = .ok (.iand, 1) := by decide +kernel
theorem d_Mdl_after_14 : decode b_Mdl_after 14 = .ok (.ior, 1) := by decide +kernel
theorem d_Mdl_after_15 : decode b_Mdl_after 15 = .ok (.goto 9, 3) := by decide +kernel
theorem d_Mdl_after_18 : decode b_Mdl_after 18 = .ok (.iload_n 1, 1) := by decide +kernel
theorem d_Mdl_after_19 : decode b_Mdl_after 19 = .ok (.iconst 1, 1) := by decide +kernel
theorem d_Mdl_after_20 : decode b_Mdl_after 20 = .ok (.iadd, 1) := by decide +kernel
theorem d_Mdl_after_21 : decode b_Mdl_after 21 = .ok (.ldc 36, 2) := by decide +kernel
theorem d_Mdl_after_23 : decode b_Mdl_after 23 = .ok (.iand, 1) := by decide +kernel
theorem d_Mdl_after_24 : decode b_Mdl_after 24 = .ok (.ireturn, 1) := by decide +kernel
theorem d_Mdl_readWord_0 : decode b_Mdl_readWord 0 = .ok (.aload_n 0, 1) := by decide +kernel
theorem d_Mdl_readWord_1 : decode b_Mdl_readWord 1 = .ok (.iload_n 1, 1) := by decide +kernel
theorem d_Mdl_readWord_2 : decode b_Mdl_readWord 2 = .ok (.invokevirtual 37, 3) := by decide +kernel
theorem d_Mdl_readWord_5 : decode b_Mdl_readWord 5 = .ok (.istore_n 3, 1) := by decide +kernel
theorem d_Mdl_readWord_6 : decode b_Mdl_readWord 6 = .ok (.iload_n 3, 1) := by decide +kernel
theorem d_Mdl_readWord_7 : decode b_Mdl_readWord 7 = .ok (.aload_n 0, 1) := by decide +kernel
theorem d_Mdl_readWord_8 : decode b_Mdl_readWord 8 = .ok (.aload_n 0, 1) := by decide +kernel
theorem d_Mdl_readWord_9 : decode b_Mdl_readWord 9 = .ok (.iload_n 1, 1) := by decide +kernel
theorem d_Mdl_readWord_10 : decode b_Mdl_readWord 10 = .ok (.iload_n 2, 1) := by decide +kernel
theorem d_Mdl_readWord_11 : decode b_Mdl_readWord 11 = .ok (.invokevirtual 40, 3) := by decide +kernel
theorem d_Mdl_readWord_14 : decode b_Mdl_readWord 14 = .ok (.invokevirtual 37, 3) := by decide +kernel
theorem d_Mdl_readWord_17 : decode b_Mdl_readWord 17 = .ok (.bipush 8, 2) := by decide +kernel
theorem d_Mdl_readWord_19 : decode b_Mdl_readWord 19 = .ok (.ishl, 1) := by decide +kernel
theorem d_Mdl_readWord_20 : decode b_Mdl_readWord 20 = .ok (.ior, 1) := by decide +kernel
theorem d_Mdl_readWord_21 : decode b_Mdl_readWord 21 = .ok (.ireturn, 1) := by decide +kernel
theorem d_Mdl_push_0 : decode b_Mdl_push 0 = .ok (.aload_n 0, 1) := by decide +kernel
theorem d_Mdl_push_1 : decode b_Mdl_push 1 = .ok (.aload_n 0, 1) := by decide +kernel
theorem d_Mdl_push_2 : decode b_Mdl_push 2 = .ok (.getfield 13, 3) := by decide +kernel
theorem d_Mdl_push_5 : decode b_Mdl_push 5 = .ok (.iload_n 1, 1) := by decide +kernel
theorem d_Mdl_push_6 : decode b_Mdl_push 6 = .ok (.invokevirtual 44, 3) := by decide +kernel
theorem d_Mdl_push_9 : decode b_Mdl_push 9 = .ok (.aload_n 0, 1) := by decide +kernel
theorem d_Mdl_push_10 : decode b_Mdl_push 10 = .ok (.aload_n 0, 1) := by decide +kernel
theorem d_Mdl_push_11 : decode b_Mdl_push 11 = .ok (.getfield 13, 3) := by decide +kernel
theorem d_Mdl_push_14 : decode b_Mdl_push 14 = .ok (.iconst 1, 1) := by decide +kernel
theorem d_Mdl_push_15 : decode b_Mdl_push 15 = .ok (.isub, 1) := by decide +kernel
theorem d_Mdl_push_16 : decode b_Mdl_push 16 = .ok (.ldc 35, 2) := by decide +kernel
theorem d_Mdl_push_18 : decode b_Mdl_push 18 = .ok (.iand, 1) := by decide +kernel
theorem d_Mdl_push_19 : decode b_Mdl_push 19 = .ok (.putfield 13, 3) := by decide +kernel
theorem d_Mdl_push_22 : decode b_Mdl_push 22 = .ok (.return_, 1) := by decide +kernel
theorem d_Mdl_pushWord_0 : decode b_Mdl_pushWord 0 = .ok (.aload_n 0, 1) := by decide +kernel
theorem d_Mdl_pushWord_1 : decode b_Mdl_pushWord 1 = .ok (.iload_n 1, 1) := by decide +kernel
theorem d_Mdl_pushWord_2 : decode b_Mdl_pushWord 2 = .ok (.bipush 8, 2) := by decide +kernel
theorem d_Mdl_pushWord_4 : decode b_Mdl_pushWord 4 = .ok (.ishr, 1) := by decide +kernel
theorem d_Mdl_pushWord_5 : decode b_Mdl_pushWord 5 = .ok (.invokevirtual 48, 3) := by decide +kernel
theorem d_Mdl_pushWord_8 : decode b_Mdl_pushWord 8 = .ok (.aload_n 0, 1) := by decide +kernel
theorem d_Mdl_pushWord_9 : decode b_Mdl_pushWord 9 = .ok (.iload_n 1, 1) := by decide +kernel
theorem d_Mdl_pushWord_10 : decode b_Mdl_pushWord 10 = .ok (.invokevirtual 48, 3) := by decide +kernel
theorem d_Mdl_pushWord_13 : decode b_Mdl_pushWord 13 = .ok (.return_, 1) := by decide +kernel
theorem d_Mdl_pull_0 : decode b_Mdl_pull 0 = .ok (.aload_n 0, 1) := by decide +kernel
theorem d_Mdl_pull_1 : decode b_Mdl_pull 1 = .ok (.aload_n 0, 1) := by decide +kernel
theorem d_Mdl_pull_2 : decode b_Mdl_pull 2 = .ok (.getfield 13, 3) := by decide +kernel
theorem d_Mdl_pull_5 : decode b_Mdl_pull 5 = .ok (.iconst 1, 1) := by decide +kernel
theorem d_Mdl_pull_6 : decode b_Mdl_pull 6 = .ok (.iadd, 1) := by decide +kernel
theorem d_Mdl_pull_7 : decode b_Mdl_pull 7 = .ok (.ldc 35, 2) := by decide +kernel
theorem d_Mdl_pull_9 : decode b_Mdl_pull 9 = .ok (.iand, 1) := by decide +kernel
theorem d_Mdl_pull_10 : decode b_Mdl_pull 10 = .ok (.putfield 13, 3) := by decide +kernel
theorem d_Mdl_pull_13 : decode b_Mdl_pull 13 = .ok (.aload_n 0, 1) := by decide +kernel
theorem d_Mdl_pull_14 : decode b_Mdl_pull 14 = .ok (.aload_n 0, 1) := by decide +kernel
theorem d_Mdl_pull_15 : decode b_Mdl_pull 15 = .ok (.getfield 13, 3) := by decide +kernel
theorem d_Mdl_pull_18 : decode b_Mdl_pull 18 = .ok (.invokevirtual 37, 3) := by decide +kernel
theorem d_Mdl_pull_21 : decode b_Mdl_pull 21 = .ok (.ireturn, 1) := by decide +kernel
theorem d_Mdl_pullWord_0 : decode b_Mdl_pullWord 0 = .ok (.aload_n 0, 1) := by decide +kernel
theorem d_Mdl_pullWord_1 : decode b_Mdl_pullWord 1 = .ok (.invokevirtual 51, 3) := by decide +kernel
theorem d_Mdl_pullWord_4 : decode b_Mdl_pullWord 4 = .ok (.istore_n 1, 1) := by decide +kernel
theorem d_Mdl_pullWord_5 : decode b_Mdl_pullWord 5 = .ok (.iload_n 1, 1) := by decide +kernel
theorem d_Mdl_pullWord_6 : decode b_Mdl_pullWord 6 = .ok (.aload_n 0, 1) := by decide +kernel
theorem d_Mdl_pullWord_7 : decode b_Mdl_pullWord 7 = .ok (.invokevirtual 51, 3) := by decide +kernel
theorem d_Mdl_pullWord_10 : decode b_Mdl_pullWord 10 = .ok (.bipush 8, 2) := by decide +kernel
theorem d_Mdl_pullWord_12 : decode b_Mdl_pullWord 12 = .ok (.ishl, 1) := by decide +kernel
theorem d_Mdl_pullWord_13 : decode b_Mdl_pullWord 13 = .ok (.ior, 1) := by decide +kernel
theorem d_Mdl_pullWord_14 : decode b_Mdl_pullWord 14 = .ok (.ireturn, 1) := by decide +kernel
theorem d_Mdl_next_0 : decode b_Mdl_next 0 = .ok (.aload_n 0, 1) := by decide +kernel
theorem d_Mdl_next_1 : decode b_Mdl_next 1 = .ok (.getfield 7, 3) := by decide +kernel
theorem d_Mdl_next_4 : decode b_Mdl_next 4 = .ok (.aload_n 0, 1) := by decide +kernel
theorem d_Mdl_next_5 : decode b_Mdl_next 5 = .ok (.getfield 55, 3) := by decide +kernel
theorem d_Mdl_next_8 : decode b_Mdl_next 8 = .ok (.bipush 16, 2) := by decide +kernel
theorem d_Mdl_next_10 : decode b_Mdl_next 10 = .ok (.ishl, 1) := by decide +kernel
theorem d_Mdl_next_11 : decode b_Mdl_next 11 = .ok (.aload_n 0, 1) := by decide +kernel
theorem d_Mdl_next_12 : decode b_Mdl_next 12 = .ok (.getfield 58, 3) := by decide +kernel
theorem d_Mdl_next_15 : decode b_Mdl_next 15 = .ok (.ior, 1) := by decide +kernel
theorem d_Mdl_next_16 : decode b_Mdl_next 16 = .ok (.invokestatic 26, 3) := by decide +kernel
theorem d_Mdl_next_19 : decode b_Mdl_next 19 = .ok (.iaload, 1) := by decide +kernel
theorem d_Mdl_next_20 : decode b_Mdl_next 20 = .ok (.istore_n 1, 1) := by decide +kernel
theorem d_Mdl_next_21 : decode b_Mdl_next 21 = .ok (.aload_n 0, 1) := by decide +kernel
theorem d_Mdl_next_22 : decode b_Mdl_next 22 = .ok (.aload_n 0, 1) := by decide +kernel
theorem d_Mdl_next_23 : decode b_Mdl_next 23 = .ok (.getfield 58, 3) := by decide +kernel
theorem d_Mdl_next_26 : decode b_Mdl_next 26 = .ok (.iconst 1, 1) := by decide +kernel
theorem d_Mdl_next_27 : decode b_Mdl_next 27 = .ok (.iadd, 1) := by decide +kernel
theorem d_Mdl_next_28 : decode b_Mdl_next 28 = .ok (.ldc 35, 2) := by decide +kernel
theorem d_Mdl_next_30 : decode b_Mdl_next 30 = .ok (.iand, 1) := by decide +kernel
theorem d_Mdl_next_31 : decode b_Mdl_next 31 = .ok (.putfield 58, 3) := by decide +kernel
theorem d_Mdl_next_34 : decode b_Mdl_next 34 = .ok (.iload_n 1, 1) := by decide +kernel
theorem d_Mdl_next_35 : decode b_Mdl_next 35 = .ok (.ireturn, 1) := by decide +kernel
theorem d_Mdl_nextWord_0 : decode b_Mdl_nextWord 0 = .ok (.aload_n 0, 1) := by decide +kernel
theorem d_Mdl_nextWord_1 : decode b_Mdl_nextWord 1 = .ok (.invokevirtual 61, 3) := by decide +kernel
theorem d_Mdl_nextWord_4 : decode b_Mdl_nextWord 4 = .ok (.istore_n 1, 1) := by decide +kernel
theorem d_Mdl_nextWord_5 : decode b_Mdl_nextWord 5 = .ok (.iload_n 1, 1) := by decide +kernel
theorem d_Mdl_nextWord_6 : decode b_Mdl_nextWord 6 = .ok (.aload_n 0, 1) := by decide +kernel
theorem d_Mdl_nextWord_7 : decode b_Mdl_nextWord 7 = .ok (.invokevirtual 61, 3) := by decide +kernel
theorem d_Mdl_nextWord_10 : decode b_Mdl_nextWord 10 = .ok (.bipush 8, 2) := by decide +kernel
theorem d_Mdl_nextWord_12 : decode b_Mdl_nextWord 12 = .ok (.ishl, 1) := by decide +kernel
theorem d_Mdl_nextWord_13 : decode b_Mdl_nextWord 13 = .ok (.ior, 1) := by decide +kernel
theorem d_Mdl_nextWord_14 : decode b_Mdl_nextWord 14 = .ok (.ireturn, 1) := by decide +kernel
theorem d_Mdl_nextLong_0 : decode b_Mdl_nextLong 0 = .ok (.aload_n 0, 1) := by decide +kernel
theorem d_Mdl_nextLong_1 : decode b_Mdl_nextLong 1 = .ok (.invokevirtual 64, 3) := by decide +kernel
theorem d_Mdl_nextLong_4 : decode b_Mdl_nextLong 4 = .ok (.istore_n 1, 1) := by decide +kernel
theorem d_Mdl_nextLong_5 : decode b_Mdl_nextLong 5 = .ok (.iload_n 1, 1) := by decide +kernel
theorem d_Mdl_nextLong_6 : decode b_Mdl_nextLong 6 = .ok (.aload_n 0, 1) := by decide +kernel
theorem d_Mdl_nextLong_7 : decode b_Mdl_nextLong 7 = .ok (.invokevirtual 61, 3) := by decide +kernel
theorem d_Mdl_nextLong_10 : decode b_Mdl_nextLong 10 = .ok (.bipush 16, 2) := by decide +kernel
theorem d_Mdl_nextLong_12 : decode b_Mdl_nextLong 12 = .ok (.ishl, 1) := by decide +kernel
theorem d_Mdl_nextLong_13 : decode b_Mdl_nextLong 13 = .ok (.ior, 1) := by decide +kernel
theorem d_Mdl_nextLong_14 : decode b_Mdl_nextLong 14 = .ok (.ireturn, 1) := by decide +kernel
theorem d_Mdl_accumulator_0 : decode b_Mdl_accumulator 0 = .ok (.aload_n 0, 1) := by decide +kernel
theorem d_Mdl_accumulator_1 : decode b_Mdl_accumulator 1 = .ok (.bipush 32, 2) := by decide +kernel
theorem d_Mdl_accumulator_3 : decode b_Mdl_accumulator 3 = .ok (.invokevirtual 67, 3) := by decide +kernel
theorem d_Mdl_accumulator_6 : decode b_Mdl_accumulator 6 = .ok (.ifCond .eq 14, 3) := by decide +kernel
theorem d_Mdl_accumulator_9 : decode b_Mdl_accumulator 9 = .ok (.aload_n 0, 1) := by decide +kernel
theorem d_Mdl_accumulator_10 : decode b_Mdl_accumulator 10 = .ok (.getfield 71, 3) := by decide +kernel
theorem d_Mdl_accumulator_13 : decode b_Mdl_accumulator 13 = .ok (.sipush 255, 3) := by decide +kernel
theorem d_Mdl_accumulator_16 : decode b_Mdl_accumulator 16 = .ok (.iand, 1) := by decide +kernel
theorem d_Mdl_accumulator_17 : decode b_Mdl_accumulator 17 = .ok (.goto 7, 3) := by decide +kernel
theorem d_Mdl_accumulator_20 : decode b_Mdl_accumulator 20 = .ok (.aload_n 0, 1) := by decide +kernel
theorem d_Mdl_accumulator_21 : decode b_Mdl_accumulator 21 = .ok (.getfield 71, 3) := by decide +kernel
theorem d_Mdl_accumulator_24 : decode b_Mdl_accumulator 24 = .ok (.ireturn, 1) := by decide +kernel
theorem d_Mdl_setAccumulator_0 : decode b_Mdl_setAccumulator 0 = .ok (.aload_n 0, 1) := by decide +kernel
theorem d_Mdl_setAccumulator_1 : decode b_Mdl_setAccumulator 1 = .ok (.aload_n 0, 1) := by decide +kernel
theorem d_Mdl_setAccumulator_2 : decode b_Mdl_setAccumulator 2 = .ok (.bipush 32, 2) := by decide +kernel
theorem d_Mdl_setAccumulator_4 : decode b_Mdl_setAccumulator 4 = .ok (.invokevirtual 67, 3) := by decide +kernel
theorem d_Mdl_setAccumulator_7 : decode b_Mdl_setAccumulator 7 = .ok (.ifCond .eq 19, 3) := by decide +kernel
theorem d_Mdl_setAccumulator_10 : decode b_Mdl_setAccumulator 10 = .ok (.aload_n 0, 1) := by decide +kernel
theorem d_Mdl_setAccumulator_11 : decode b_Mdl_setAccumulator 11 = .ok (.getfield 71, 3) := by decide +kernel
theorem d_Mdl_setAccumulator_14 : decode b_Mdl_setAccumulator 14 = .ok (.ldc 74, 2) := by decide +kernel
theorem d_Mdl_setAccumulator_16 : decode b_Mdl_setAccumulator 16 = .ok (.iand, 1) := by decide +kernel
theorem d_Mdl_setAccumulator_17 : decode b_Mdl_setAccumulator 17 = .ok (.iload_n 1, 1) := by decide +kernel
theorem d_Mdl_setAccumulator_18 : decode b_Mdl_setAccumulator 18 = .ok (.sipush 255, 3) := by decide +kernel
theorem d_Mdl_setAccumulator_21 : decode b_Mdl_setAccumulator 21 = .ok (.iand, 1) := by decide +kernel
theorem d_Mdl_setAccumulator_22 : decode b_Mdl_setAccumulator 22 = .ok (.ior, 1) := by decide +kernel
theorem d_Mdl_setAccumulator_23 : decode b_Mdl_setAccumulator 23 = .ok (.goto 7, 3) := by decide +kernel
theorem d_Mdl_setAccumulator_26 : decode b_Mdl_setAccumulator 26 = .ok (.iload_n 1, 1) := by decide +kernel
theorem d_Mdl_setAccumulator_27 : decode b_Mdl_setAccumulator 27 = .ok (.ldc 35, 2) := by decide +kernel
theorem d_Mdl_setAccumulator_29 : decode b_Mdl_setAccumulator 29 = .ok (.iand, 1) := by decide +kernel
theorem d_Mdl_setAccumulator_30 : decode b_Mdl_setAccumulator 30 = .ok (.putfield 71, 3) := by decide +kernel
theorem d_Mdl_setAccumulator_33 : decode b_Mdl_setAccumulator 33 = .ok (.return_, 1) := by decide +kernel
theorem d_Mdl_cut_0 : decode b_Mdl_cut 0 = .ok (.iload_n 2, 1) := by decide +kernel
theorem d_Mdl_cut_1 : decode b_Mdl_cut 1 = .ok (.ifCond .eq 11, 3) := by decide +kernel
theorem d_Mdl_cut_4 : decode b_Mdl_cut 4 = .ok (.iload_n 1, 1) := by decide +kernel
theorem d_Mdl_cut_5 : decode b_Mdl_cut 5 = .ok (.sipush 255, 3) := by decide +kernel
theorem d_Mdl_cut_8 : decode b_Mdl_cut 8 = .ok (.iand, 1) := by decide +kernel
theorem d_Mdl_cut_9 : decode b_Mdl_cut 9 = .ok (.goto 7, 3) := by decide +kernel
theorem d_Mdl_cut_12 : decode b_Mdl_cut 12 = .ok (.iload_n 1, 1) := by decide +kernel
theorem d_Mdl_cut_13 : decode b_Mdl_cut 13 = .ok (.ldc 35, 2) := by decide +kernel
theorem d_Mdl_cut_15 : decode b_Mdl_cut 15 = .ok (.iand, 1) := by decide +kernel
theorem d_Mdl_cut_16 : decode b_Mdl_cut 16 = .ok (.ireturn, 1) := by decide +kernel
theorem d_Mdl_result_0 : decode b_Mdl_result 0 = .ok (.aload_n 0, 1) := by decide +kernel
theorem d_Mdl_result_1 : decode b_Mdl_result 1 = .ok (.iload_n 1, 1) := by decide +kernel
theorem d_Mdl_result_2 : decode b_Mdl_result 2 = .ok (.iload_n 2, 1) := by decide +kernel
theorem d_Mdl_result_3 : decode b_Mdl_result 3 = .ok (.invokevirtual 75, 3) := by decide +kernel
theorem d_Mdl_result_6 : decode b_Mdl_result 6 = .ok (.istore_n 3, 1) := by decide +kernel
theorem d_Mdl_result_7 : decode b_Mdl_result 7 = .ok (.aload_n 0, 1) := by decide +kernel
theorem d_Mdl_result_8 : decode b_Mdl_result 8 = .ok (.sipush 128, 3) := by decide +kernel
theorem d_Mdl_result_11 : decode b_Mdl_result 11 = .ok (.iload_n 3, 1) := by decide +kernel
theorem d_Mdl_result_12 : decode b_Mdl_result 12 = .ok (.iload_n 2, 1) := by decide +kernel
theorem d_Mdl_result_13 : decode b_Mdl_result 13 = .ok (.ifCond .eq 9, 3) := by decide +kernel
theorem d_Mdl_result_16 : decode b_Mdl_result 16 = .ok (.sipush 128, 3) := by decide +kernel
theorem d_Mdl_result_19 : decode b_Mdl_result 19 = .ok (.goto 5, 3) := by decide +kernel
theorem d_Mdl_result_22 : decode b_Mdl_result 22 = .ok (.ldc 78, 2) := by decide +kernel
theorem d_Mdl_result_24 : decode b_Mdl_result 24 = .ok (.iand, 1) := by decide +kernel
theorem d_Mdl_result_25 : decode b_Mdl_result 25 = .ok (.ifCond .eq 7, 3) := by decide +kernel
theorem d_Mdl_result_28 : decode b_Mdl_result 28 = .ok (.iconst 1, 1) := by decide +kernel
theorem d_Mdl_result_29 : decode b_Mdl_result 29 = .ok (.goto 4, 3) := by decide +kernel
theorem d_Mdl_result_32 : decode b_Mdl_result 32 = .ok (.iconst 0, 1) := by decide +kernel
theorem d_Mdl_result_33 : decode b_Mdl_result 33 = .ok (.invokevirtual 79, 3) := by decide +kernel
theorem d_Mdl_result_36 : decode b_Mdl_result 36 = .ok (.aload_n 0, 1) := by decide +kernel
theorem d_Mdl_result_37 : decode b_Mdl_result 37 = .ok (.iconst 2, 1) := by decide +kernel
theorem d_Mdl_result_38 : decode b_Mdl_result 38 = .ok (.iload_n 3, 1) := by decide +kernel
theorem d_Mdl_result_39 : decode b_Mdl_result 39 = .ok (.ifCond .ne 7, 3) := by decide +kernel
theorem d_Mdl_result_42 : decode b_Mdl_result 42 = .ok (.iconst 1, 1) := by decide +kernel
theorem d_Mdl_result_43 : decode b_Mdl_result 43 = .ok (.goto 4, 3) := by decide +kernel
theorem d_Mdl_result_46 : decode b_Mdl_result 46 = .ok (.iconst 0, 1) := by decide +kernel
theorem d_Mdl_result_47 : decode b_Mdl_result 47 = .ok (.invokevirtual 79, 3) := by decide +kernel
theorem d_Mdl_result_50 : decode b_Mdl_result 50 = .ok (.iload_n 3, 1) := by decide +kernel
theorem d_Mdl_result_51 : decode b_Mdl_result 51 = .ok (.ireturn, 1) := by decide +kernel
theorem d_Mdl_setFlags_0 : decode b_Mdl_setFlags 0 = .ok (.aload_n 0, 1) := by decide +kernel
theorem d_Mdl_setFlags_1 : decode b_Mdl_setFlags 1 = .ok (.iload_n 1, 1) := by decide +kernel
theorem d_Mdl_setFlags_2 : decode b_Mdl_setFlags 2 = .ok (.sipush 255, 3) := by decide +kernel
theorem d_Mdl_setFlags_5 : decode b_Mdl_setFlags 5 = .ok (.iand, 1) := by decide +kernel
theorem d_Mdl_setFlags_6 : decode b_Mdl_setFlags 6 = .ok (.putfield 17, 3) := by decide +kernel
theorem d_Mdl_setFlags_9 : decode b_Mdl_setFlags 9 = .ok (.aload_n 0, 1) := by decide +kernel
theorem d_Mdl_setFlags_10 : decode b_Mdl_setFlags 10 = .ok (.bipush 16, 2) := by decide +kernel
theorem d_Mdl_setFlags_12 : decode b_Mdl_setFlags 12 = .ok (.invokevirtual 67, 3) := by decide +kernel
theorem d_Mdl_setFlags_15 : decode b_Mdl_setFlags 15 = .ok (.ifCond .eq 27, 3) := by decide +kernel
theorem d_Mdl_setFlags_18 : decode b_Mdl_setFlags 18 = .ok (.aload_n 0, 1) := by decide +kernel
theorem d_Mdl_setFlags_19 : decode b_Mdl_setFlags 19 = .ok (.aload_n 0, 1) := by decide +kernel
theorem d_Mdl_setFlags_20 : decode b_Mdl_setFlags 20 = .ok (.getfield 83, 3) := by decide +kernel
theorem d_Mdl_setFlags_23 : decode b_Mdl_setFlags 23 = .ok (.sipush 255, 3) := by decide +kernel
theorem d_Mdl_setFlags_26 : decode b_Mdl_setFlags 26 = .ok (.iand, 1) := by decide +kernel
theorem d_Mdl_setFlags_27 : decode b_Mdl_setFlags 27 = .ok (.putfield 83, 3) := by decide +kernel
theorem d_Mdl_setFlags_30 : decode b_Mdl_setFlags 30 = .ok (.aload_n 0, 1) := by decide +kernel
theorem d_Mdl_setFlags_31 : decode b_Mdl_setFlags 31 = .ok (.aload_n 0, 1) := by decide +kernel
theorem d_Mdl_setFlags_32 : decode b_Mdl_setFlags 32 = .ok (.getfield 86, 3) := by decide +kernel
theorem d_Mdl_setFlags_35 : decode b_Mdl_setFlags 35 = .ok (.sipush 255, 3) := by decide +kernel
theorem d_Mdl_setFlags_38 : decode b_Mdl_setFlags 38 = .ok (.iand, 1) := by decide +kernel
theorem d_Mdl_setFlags_39 : decode b_Mdl_setFlags 39 = .ok (.putfield 86, 3) := by decide +kernel
theorem d_Mdl_setFlags_42 : decode b_Mdl_setFlags 42 = .ok (.return_, 1) := by decide +kernel
theorem d_Mdl_direct_0 : decode b_Mdl_direct 0 = .ok (.aload_n 0, 1) := by decide +kernel
theorem d_Mdl_direct_1 : decode b_Mdl_direct 1 = .ok (.aload_n 0, 1) := by decide +kernel
theorem d_Mdl_direct_2 : decode b_Mdl_direct 2 = .ok (.getfield 89, 3) := by decide +kernel
theorem d_Mdl_direct_5 : decode b_Mdl_direct 5 = .ok (.aload_n 0, 1) := by decide +kernel
theorem d_Mdl_direct_6 : decode b_Mdl_direct 6 = .ok (.invokevirtual 61, 3) := by decide +kernel
theorem d_Mdl_direct_9 : decode b_Mdl_direct 9 = .ok (.iadd, 1) := by decide +kernel
theorem d_Mdl_direct_10 : decode b_Mdl_direct 10 = .ok (.iload_n 1, 1) := by decide +kernel
theorem d_Mdl_direct_11 : decode b_Mdl_direct 11 = .ok (.iadd, 1) := by decide +kernel
theorem d_Mdl_direct_12 : decode b_Mdl_direct 12 = .ok (.ldc 35, 2) := by decide +kernel
theorem d_Mdl_direct_14 : decode b_Mdl_direct 14 = .ok (.iand, 1) := by decide +kernel
theorem d_Mdl_direct_15 : decode b_Mdl_direct 15 = .ok (.putfield 92, 3) := by decide +kernel
theorem d_Mdl_direct_18 : decode b_Mdl_direct 18 = .ok (.aload_n 0, 1) := by decide +kernel
theorem d_Mdl_direct_19 : decode b_Mdl_direct 19 = .ok (.iconst 1, 1) := by decide +kernel
theorem d_Mdl_direct_20 : decode b_Mdl_direct 20 = .ok (.putfield 95, 3) := by decide +kernel
theorem d_Mdl_direct_23 : decode b_Mdl_direct 23 = .ok (.return_, 1) := by decide +kernel
theorem d_Mdl_far_0 : decode b_Mdl_far 0 = .ok (.aload_n 0, 1) := by decide +kernel
theorem d_Mdl_far_1 : decode b_Mdl_far 1 = .ok (.iload_n 1, 1) := by decide +kernel
theorem d_Mdl_far_2 : decode b_Mdl_far 2 = .ok (.ldc 36, 2) := by decide +kernel
theorem d_Mdl_far_4 : decode b_Mdl_far 4 = .ok (.iand, 1) := by decide +kernel
theorem d_Mdl_far_5 : decode b_Mdl_far 5 = .ok (.putfield 92, 3) := by decide +kernel
theorem d_Mdl_far_8 : decode b_Mdl_far 8 = .ok (.aload_n 0, 1) := by decide +kernel
theorem d_Mdl_far_9 : decode b_Mdl_far 9 = .ok (.iconst 0, 1) := by decide +kernel
theorem d_Mdl_far_10 : decode b_Mdl_far 10 = .ok (.putfield 95, 3) := by decide +kernel
theorem d_Mdl_far_13 : decode b_Mdl_far 13 = .ok (.return_, 1) := by decide +kernel
theorem d_Mdl_find_0 : decode b_Mdl_find 0 = .ok (.iload_n 1, 1) := by decide +kernel
theorem d_Mdl_find_1 : decode b_Mdl_find 1 = .ok (.iconst 5, 1) := by decide +kernel
theorem d_Mdl_find_2 : decode b_Mdl_find 2 = .ok (.if_icmp .eq 9, 3) := by decide +kernel
theorem d_Mdl_find_5 : decode b_Mdl_find 5 = .ok (.iload_n 1, 1) := by decide +kernel
theorem d_Mdl_find_6 : decode b_Mdl_find 6 = .ok (.bipush 21, 2) := by decide +kernel
theorem d_Mdl_find_8 : decode b_Mdl_find 8 = .ok (.if_icmp .ne 24, 3) := by decide +kernel
theorem d_Mdl_find_11 : decode b_Mdl_find 11 = .ok (.aload_n 0, 1) := by decide +kernel
theorem d_Mdl_find_12 : decode b_Mdl_find 12 = .ok (.iload_n 1, 1) := by decide +kernel
theorem d_Mdl_find_13 : decode b_Mdl_find 13 = .ok (.bipush 21, 2) := by decide +kernel
theorem d_Mdl_find_15 : decode b_Mdl_find 15 = .ok (.if_icmp .ne 10, 3) := by decide +kernel
theorem d_Mdl_find_18 : decode b_Mdl_find 18 = .ok (.aload_n 0, 1) := by decide +kernel
theorem d_Mdl_find_19 : decode b_Mdl_find 19 = .ok (.getfield 83, 3) := by decide +kernel
theorem d_Mdl_find_22 : decode b_Mdl_find 22 = .ok (.goto 4, 3) := by decide +kernel
theorem d_Mdl_find_25 : decode b_Mdl_find 25 = .ok (.iconst 0, 1) := by decide +kernel
theorem d_Mdl_find_26 : decode b_Mdl_find 26 = .ok (.invokevirtual 99, 3) := by decide +kernel
theorem d_Mdl_find_29 : decode b_Mdl_find 29 = .ok (.goto 330, 3) := by decide +kernel
theorem d_Mdl_find_32 : decode b_Mdl_find 32 = .ok (.iload_n 1, 1) := by decide +kernel
theorem d_Mdl_find_33 : decode b_Mdl_find 33 = .ok (.iconst 3, 1) := by decide +kernel
theorem d_Mdl_find_34 : decode b_Mdl_find 34 = .ok (.if_icmp .ne 27, 3) := by decide +kernel
theorem d_Mdl_find_37 : decode b_Mdl_find 37 = .ok (.aload_n 0, 1) := by decide +kernel
theorem d_Mdl_find_38 : decode b_Mdl_find 38 = .ok (.aload_n 0, 1) := by decide +kernel
theorem d_Mdl_find_39 : decode b_Mdl_find 39 = .ok (.getfield 13, 3) := by decide +kernel
theorem d_Mdl_find_42 : decode b_Mdl_find 42 = .ok (.aload_n 0, 1) := by decide +kernel
theorem d_Mdl_find_43 : decode b_Mdl_find 43 = .ok (.invokevirtual 61, 3) := by decide +kernel
theorem d_Mdl_find_46 : decode b_Mdl_find 46 = .ok (.iadd, 1) := by decide +kernel
theorem d_Mdl_find_47 : decode b_Mdl_find 47 = .ok (.ldc 35, 2) := by decide +kernel
theorem d_Mdl_find_49 : decode b_Mdl_find 49 = .ok (.iand, 1) := by decide +kernel
theorem d_Mdl_find_50 : decode b_Mdl_find 50 = .ok (.putfield 92, 3) := by decide +kernel
theorem d_Mdl_find_53 : decode b_Mdl_find 53 = .ok (.aload_n 0, 1) := by decide +kernel
theorem d_Mdl_find_54 : decode b_Mdl_find 54 = .ok (.iconst 1, 1) := by decide +kernel
theorem d_Mdl_find_55 : decode b_Mdl_find 55 = .ok (.putfield 95, 3) := by decide +kernel
theorem d_Mdl_find_58 : decode b_Mdl_find 58 = .ok (.goto 301, 3) := by decide +kernel
theorem d_Mdl_find_61 : decode b_Mdl_find 61 = .ok (.iload_n 1, 1) := by decide +kernel
theorem d_Mdl_find_62 : decode b_Mdl_find 62 = .ok (.bipush 13, 2) := by decide +kernel
theorem d_Mdl_find_64 : decode b_Mdl_find 64 = .ok (.if_icmp .eq 15, 3) := by decide +kernel
theorem d_Mdl_find_67 : decode b_Mdl_find 67 = .ok (.iload_n 1, 1) := by decide +kernel
theorem d_Mdl_find_68 : decode b_Mdl_find 68 = .ok (.bipush 25, 2) := by decide +kernel
theorem d_Mdl_find_70 : decode b_Mdl_find 70 = .ok (.if_icmp .eq 9, 3) := by decide +kernel
theorem d_Mdl_find_73 : decode b_Mdl_find 73 = .ok (.iload_n 1, 1) := by decide +kernel
theorem d_Mdl_find_74 : decode b_Mdl_find 74 = .ok (.bipush 29, 2) := by decide +kernel
theorem d_Mdl_find_76 : decode b_Mdl_find 76 = .ok (.if_icmp .ne 50, 3) := by decide +kernel
theorem d_Mdl_find_79 : decode b_Mdl_find 79 = .ok (.aload_n 0, 1) := by decide +kernel
theorem d_Mdl_find_80 : decode b_Mdl_find 80 = .ok (.aload_n 0, 1) := by decide +kernel
theorem d_Mdl_find_81 : decode b_Mdl_find 81 = .ok (.getfield 102, 3) := by decide +kernel
theorem d_Mdl_find_84 : decode b_Mdl_find 84 = .ok (.bipush 16, 2) := by decide +kernel
theorem d_Mdl_find_86 : decode b_Mdl_find 86 = .ok (.ishl, 1) := by decide +kernel
theorem d_Mdl_find_87 : decode b_Mdl_find 87 = .ok (.aload_n 0, 1) := by decide +kernel
theorem d_Mdl_find_88 : decode b_Mdl_find 88 = .ok (.invokevirtual 64, 3) := by decide +kernel
theorem d_Mdl_find_91 : decode b_Mdl_find 91 = .ok (.iadd, 1) := by decide +kernel
theorem d_Mdl_find_92 : decode b_Mdl_find 92 = .ok (.iload_n 1, 1) := by decide +kernel
theorem d_Mdl_find_93 : decode b_Mdl_find 93 = .ok (.bipush 25, 2) := by decide +kernel
theorem d_Mdl_find_95 : decode b_Mdl_find 95 = .ok (.if_icmp .ne 10, 3) := by decide +kernel
theorem d_Mdl_find_98 : decode b_Mdl_find 98 = .ok (.aload_n 0, 1) := by decide +kernel
theorem d_Mdl_find_99 : decode b_Mdl_find 99 = .ok (.getfield 86, 3) := by decide +kernel
theorem d_Mdl_find_102 : decode b_Mdl_find 102 = .ok (.goto 17, 3) := by decide +kernel
theorem d_Mdl_find_105 : decode b_Mdl_find 105 = .ok (.iload_n 1, 1) := by decide +kernel
theorem d_Mdl_find_106 : decode b_Mdl_find 106 = .ok (.bipush 29, 2) := by decide +kernel
theorem d_Mdl_find_108 : decode b_Mdl_find 108 = .ok (.if_icmp .ne 10, 3) := by decide +kernel
theorem d_Mdl_find_111 : decode b_Mdl_find 111 = .ok (.aload_n 0, 1) := by decide +kernel
theorem d_Mdl_find_112 : decode b_Mdl_find 112 = .ok (.getfield 83, 3) := by decide +kernel
theorem d_Mdl_find_115 : decode b_Mdl_find 115 = .ok (.goto 4, 3) := by decide +kernel
theorem d_Mdl_find_118 : decode b_Mdl_find 118 = .ok (.iconst 0, 1) := by decide +kernel
theorem d_Mdl_find_119 : decode b_Mdl_find 119 = .ok (.iadd, 1) := by decide +kernel
theorem d_Mdl_find_120 : decode b_Mdl_find 120 = .ok (.invokevirtual 105, 3) := by decide +kernel
theorem d_Mdl_find_123 : decode b_Mdl_find 123 = .ok (.goto 236, 3) := by decide +kernel
theorem d_Mdl_find_126 : decode b_Mdl_find 126 = .ok (.iload_n 1, 1) := by decide +kernel
theorem d_Mdl_find_127 : decode b_Mdl_find 127 = .ok (.bipush 15, 2) := by decide +kernel
theorem d_Mdl_find_129 : decode b_Mdl_find 129 = .ok (.if_icmp .eq 9, 3) := by decide +kernel
theorem d_Mdl_find_132 : decode b_Mdl_find 132 = .ok (.iload_n 1, 1) := by decide +kernel
theorem d_Mdl_find_133 : decode b_Mdl_find 133 = .ok (.bipush 31, 2) := by decide +kernel
theorem d_Mdl_find_135 : decode b_Mdl_find 135 = .ok (.if_icmp .ne 29, 3) := by decide +kernel
theorem d_Mdl_find_138 : decode b_Mdl_find 138 = .ok (.aload_n 0, 1) := by decide +kernel
theorem d_Mdl_find_139 : decode b_Mdl_find 139 = .ok (.aload_n 0, 1) := by decide +kernel
theorem d_Mdl_find_140 : decode b_Mdl_find 140 = .ok (.invokevirtual 108, 3) := by decide +kernel
theorem d_Mdl_find_143 : decode b_Mdl_find 143 = .ok (.iload_n 1, 1) := by decide +kernel
theorem d_Mdl_find_144 : decode b_Mdl_find 144 = .ok (.bipush 31, 2) := by decide +kernel
theorem d_Mdl_find_146 : decode b_Mdl_find 146 = .ok (.if_icmp .ne 10, 3) := by decide +kernel
theorem d_Mdl_find_149 : decode b_Mdl_find 149 = .ok (.aload_n 0, 1) := by decide +kernel
theorem d_Mdl_find_150 : decode b_Mdl_find 150 = .ok (.getfield 83, 3) := by decide +kernel
theorem d_Mdl_find_153 : decode b_Mdl_find 153 = .ok (.goto 4, 3) := by decide +kernel
theorem d_Mdl_find_156 : decode b_Mdl_find 156 = .ok (.iconst 0, 1) := by decide +kernel
theorem d_Mdl_find_157 : decode b_Mdl_find 157 = .ok (.iadd, 1) := by decide +kernel
theorem d_Mdl_find_158 : decode b_Mdl_find 158 = .ok (.invokevirtual 105, 3) := by decide +kernel
theorem d_Mdl_find_161 : decode b_Mdl_find 161 = .ok (.goto 198, 3) := by decide +kernel
theorem d_Mdl_find_164 : decode b_Mdl_find 164 = .ok (.iload_n 1, 1) := by decide +kernel
theorem d_Mdl_find_165 : decode b_Mdl_find 165 = .ok (.iconst 1, 1) := by decide +kernel
theorem d_Mdl_find_166 : decode b_Mdl_find 166 = .ok (.if_icmp .eq 15, 3) := by decide +kernel
theorem d_Mdl_find_169 : decode b_Mdl_find 169 = .ok (.iload_n 1, 1) := by decide +kernel
theorem d_Mdl_find_170 : decode b_Mdl_find 170 = .ok (.bipush 17, 2) := by decide +kernel
theorem d_Mdl_find_172 : decode b_Mdl_find 172 = .ok (.if_icmp .eq 9, 3) := by decide +kernel
theorem d_Mdl_find_175 : decode b_Mdl_find 175 = .ok (.iload_n 1, 1) := by decide +kernel
theorem d_Mdl_find_176 : decode b_Mdl_find 176 = .ok (.bipush 18, 2) := by decide +kernel
theorem d_Mdl_find_178 : decode b_Mdl_find 178 = .ok (.if_icmp .ne 59, 3) := by decide +kernel
theorem d_Mdl_find_181 : decode b_Mdl_find 181 = .ok (.aload_n 0, 1) := by decide +kernel
theorem d_Mdl_find_182 : decode b_Mdl_find 182 = .ok (.iload_n 1, 1) := by decide +kernel
theorem d_Mdl_find_183 : decode b_Mdl_find 183 = .ok (.iconst 1, 1) := by decide +kernel
theorem d_Mdl_find_184 : decode b_Mdl_find 184 = .ok (.if_icmp .ne 10, 3) := by decide +kernel
theorem d_Mdl_find_187 : decode b_Mdl_find 187 = .ok (.aload_n 0, 1) := by decide +kernel
theorem d_Mdl_find_188 : decode b_Mdl_find 188 = .ok (.getfield 83, 3) := by decide +kernel
theorem d_Mdl_find_191 : decode b_Mdl_find 191 = .ok (.goto 4, 3) := by decide +kernel
theorem d_Mdl_find_194 : decode b_Mdl_find 194 = .ok (.iconst 0, 1) := by decide +kernel
theorem d_Mdl_find_195 : decode b_Mdl_find 195 = .ok (.invokevirtual 99, 3) := by decide +kernel
theorem d_Mdl_find_198 : decode b_Mdl_find 198 = .ok (.aload_n 0, 1) := by decide +kernel
theorem d_Mdl_find_199 : decode b_Mdl_find 199 = .ok (.aload_n 0, 1) := by decide +kernel
theorem d_Mdl_find_200 : decode b_Mdl_find 200 = .ok (.getfield 102, 3) := by decide +kernel
theorem d_Mdl_find_203 : decode b_Mdl_find 203 = .ok (.bipush 16, 2) := by decide +kernel
theorem d_Mdl_find_205 : decode b_Mdl_find 205 = .ok (.ishl, 1) := by decide +kernel
theorem d_Mdl_find_206 : decode b_Mdl_find 206 = .ok (.aload_n 0, 1) := by decide +kernel
theorem d_Mdl_find_207 : decode b_Mdl_find 207 = .ok (.aload_n 0, 1) := by decide +kernel
theorem d_Mdl_find_208 : decode b_Mdl_find 208 = .ok (.getfield 92, 3) := by decide +kernel
theorem d_Mdl_find_211 : decode b_Mdl_find 211 = .ok (.iconst 1, 1) := by decide +kernel
theorem d_Mdl_find_212 : decode b_Mdl_find 212 = .ok (.invokevirtual 111, 3) := by decide +kernel
theorem d_Mdl_find_215 : decode b_Mdl_find 215 = .ok (.iadd, 1) := by decide +kernel
theorem d_Mdl_find_216 : decode b_Mdl_find 216 = .ok (.iload_n 1, 1) := by decide +kernel
theorem d_Mdl_find_217 : decode b_Mdl_find 217 = .ok (.bipush 17, 2) := by decide +kernel
theorem d_Mdl_find_219 : decode b_Mdl_find 219 = .ok (.if_icmp .ne 10, 3) := by decide +kernel
theorem d_Mdl_find_222 : decode b_Mdl_find 222 = .ok (.aload_n 0, 1) := by decide +kernel
theorem d_Mdl_find_223 : decode b_Mdl_find 223 = .ok (.getfield 86, 3) := by decide +kernel
theorem d_Mdl_find_226 : decode b_Mdl_find 226 = .ok (.goto 4, 3) := by decide +kernel
theorem d_Mdl_find_229 : decode b_Mdl_find 229 = .ok (.iconst 0, 1) := by decide +kernel
theorem d_Mdl_find_230 : decode b_Mdl_find 230 = .ok (.iadd, 1) := by decide +kernel
theorem d_Mdl_find_231 : decode b_Mdl_find 231 = .ok (.invokevirtual 105, 3) := by decide +kernel
theorem d_Mdl_find_234 : decode b_Mdl_find 234 = .ok (.goto 125, 3) := by decide +kernel
theorem d_Mdl_find_237 : decode b_Mdl_find 237 = .ok (.iload_n 1, 1) := by decide +kernel
theorem d_Mdl_find_238 : decode b_Mdl_find 238 = .ok (.bipush 7, 2) := by decide +kernel
theorem d_Mdl_find_240 : decode b_Mdl_find 240 = .ok (.if_icmp .eq 9, 3) := by decide +kernel
theorem d_Mdl_find_243 : decode b_Mdl_find 243 = .ok (.iload_n 1, 1) := by decide +kernel
theorem d_Mdl_find_244 : decode b_Mdl_find 244 = .ok (.bipush 23, 2) := by decide +kernel
theorem d_Mdl_find_246 : decode b_Mdl_find 246 = .ok (.if_icmp .ne 60, 3) := by decide +kernel
theorem d_Mdl_find_249 : decode b_Mdl_find 249 = .ok (.aload_n 0, 1) := by decide +kernel
theorem d_Mdl_find_250 : decode b_Mdl_find 250 = .ok (.iconst 0, 1) := by decide +kernel
theorem d_Mdl_find_251 : decode b_Mdl_find 251 = .ok (.invokevirtual 99, 3) := by decide +kernel
theorem d_Mdl_find_254 : decode b_Mdl_find 254 = .ok (.aload_n 0, 1) := by decide +kernel
theorem d_Mdl_find_255 : decode b_Mdl_find 255 = .ok (.aload_n 0, 1) := by decide +kernel
theorem d_Mdl_find_256 : decode b_Mdl_find 256 = .ok (.getfield 92, 3) := by decide +kernel
theorem d_Mdl_find_259 : decode b_Mdl_find 259 = .ok (.iconst 1, 1) := by decide +kernel
theorem d_Mdl_find_260 : decode b_Mdl_find 260 = .ok (.invokevirtual 111, 3) := by decide +kernel
theorem d_Mdl_find_263 : decode b_Mdl_find 263 = .ok (.istore_n 2, 1) := by decide +kernel
theorem d_Mdl_find_264 : decode b_Mdl_find 264 = .ok (.aload_n 0, 1) := by decide +kernel
theorem d_Mdl_find_265 : decode b_Mdl_find 265 = .ok (.aload_n 0, 1) := by decide +kernel
theorem d_Mdl_find_266 : decode b_Mdl_find 266 = .ok (.getfield 92, 3) := by decide +kernel
theorem d_Mdl_find_269 : decode b_Mdl_find 269 = .ok (.iconst 2, 1) := by decide +kernel
theorem d_Mdl_find_270 : decode b_Mdl_find 270 = .ok (.iadd, 1) := by decide +kernel
theorem d_Mdl_find_271 : decode b_Mdl_find 271 = .ok (.ldc 35, 2) := by decide +kernel
theorem d_Mdl_find_273 : decode b_Mdl_find 273 = .ok (.iand, 1) := by decide +kernel
theorem d_Mdl_find_274 : decode b_Mdl_find 274 = .ok (.invokevirtual 37, 3) := by decide +kernel
theorem d_Mdl_find_277 : decode b_Mdl_find 277 = .ok (.istore_n 3, 1) := by decide +kernel
theorem d_Mdl_find_278 : decode b_Mdl_find 278 = .ok (.aload_n 0, 1) := by decide +kernel
theorem d_Mdl_find_279 : decode b_Mdl_find 279 = .ok (.iload_n 3, 1) := by decide +kernel
theorem d_Mdl_find_280 : decode b_Mdl_find 280 = .ok (.bipush 16, 2) := by decide +kernel
theorem d_Mdl_find_282 : decode b_Mdl_find 282 = .ok (.ishl, 1) := by decide +kernel
theorem d_Mdl_find_283 : decode b_Mdl_find 283 = .ok (.iload_n 2, 1) := by decide +kernel
theorem d_Mdl_find_284 : decode b_Mdl_find 284 = .ok (.iadd, 1) := by decide +kernel
theorem d_Mdl_find_285 : decode b_Mdl_find 285 = .ok (.iload_n 1, 1) := by decide +kernel
theorem d_Mdl_find_286 : decode b_Mdl_find 286 = .ok (.bipush 23, 2) := by decide +kernel
theorem d_Mdl_find_288 : decode b_Mdl_find 288 = .ok (.if_icmp .ne 10, 3) := by decide +kernel
theorem d_Mdl_find_291 : decode b_Mdl_find 291 = .ok (.aload_n 0, 1) := by decide +kernel
theorem d_Mdl_find_292 : decode b_Mdl_find 292 = .ok (.getfield 86, 3) := by decide +kernel
theorem d_Mdl_find_295 : decode b_Mdl_find 295 = .ok (.goto 4, 3) := by decide +kernel
theorem d_Mdl_find_298 : decode b_Mdl_find 298 = .ok (.iconst 0, 1) := by decide +kernel
theorem d_Mdl_find_299 : decode b_Mdl_find 299 = .ok (.iadd, 1) := by decide +kernel
theorem d_Mdl_find_300 : decode b_Mdl_find 300 = .ok (.invokevirtual 105, 3) := by decide +kernel
theorem d_Mdl_find_303 : decode b_Mdl_find 303 = .ok (.goto 56, 3) := by decide +kernel
theorem d_Mdl_find_306 : decode b_Mdl_find 306 = .ok (.iload_n 1, 1) := by decide +kernel
theorem d_Mdl_find_307 : decode b_Mdl_find 307 = .ok (.bipush 19, 2) := by decide +kernel
theorem d_Mdl_find_309 : decode b_Mdl_find 309 = .ok (.if_icmp .ne 48, 3) := by decide +kernel
theorem d_Mdl_find_312 : decode b_Mdl_find 312 = .ok (.aload_n 0, 1) := by decide +kernel
theorem d_Mdl_find_313 : decode b_Mdl_find 313 = .ok (.aload_n 0, 1) := by decide +kernel
theorem d_Mdl_find_314 : decode b_Mdl_find 314 = .ok (.getfield 13, 3) := by decide +kernel
theorem d_Mdl_find_317 : decode b_Mdl_find 317 = .ok (.aload_n 0, 1) := by decide +kernel
theorem d_Mdl_find_318 : decode b_Mdl_find 318 = .ok (.invokevirtual 61, 3) := by decide +kernel
theorem d_Mdl_find_321 : decode b_Mdl_find 321 = .ok (.iadd, 1) := by decide +kernel
theorem d_Mdl_find_322 : decode b_Mdl_find 322 = .ok (.ldc 35, 2) := by decide +kernel
theorem d_Mdl_find_324 : decode b_Mdl_find 324 = .ok (.iand, 1) := by decide +kernel
theorem d_Mdl_find_325 : decode b_Mdl_find 325 = .ok (.putfield 92, 3) := by decide +kernel
theorem d_Mdl_find_328 : decode b_Mdl_find 328 = .ok (.aload_n 0, 1) := by decide +kernel
theorem d_Mdl_find_329 : decode b_Mdl_find 329 = .ok (.aload_n 0, 1) := by decide +kernel
theorem d_Mdl_find_330 : decode b_Mdl_find 330 = .ok (.getfield 102, 3) := by decide +kernel
theorem d_Mdl_find_333 : decode b_Mdl_find 333 = .ok (.bipush 16, 2) := by decide +kernel
theorem d_Mdl_find_335 : decode b_Mdl_find 335 = .ok (.ishl, 1) := by decide +kernel
theorem d_Mdl_find_336 : decode b_Mdl_find 336 = .ok (.aload_n 0, 1) := by decide +kernel
theorem d_Mdl_find_337 : decode b_Mdl_find 337 = .ok (.aload_n 0, 1) := by decide +kernel
theorem d_Mdl_find_338 : decode b_Mdl_find 338 = .ok (.getfield 92, 3) := by decide +kernel
theorem d_Mdl_find_341 : decode b_Mdl_find 341 = .ok (.iconst 1, 1) := by decide +kernel
theorem d_Mdl_find_342 : decode b_Mdl_find 342 = .ok (.invokevirtual 111, 3) := by decide +kernel
theorem d_Mdl_find_345 : decode b_Mdl_find 345 = .ok (.iadd, 1) := by decide +kernel
theorem d_Mdl_find_346 : decode b_Mdl_find 346 = .ok (.aload_n 0, 1) := by decide +kernel
theorem d_Mdl_find_347 : decode b_Mdl_find 347 = .ok (.getfield 86, 3) := by decide +kernel
theorem d_Mdl_find_350 : decode b_Mdl_find 350 = .ok (.iadd, 1) := by decide +kernel
theorem d_Mdl_find_351 : decode b_Mdl_find 351 = .ok (.invokevirtual 105, 3) := by decide +kernel
theorem d_Mdl_find_354 : decode b_Mdl_find 354 = .ok (.goto 5, 3) := by decide +kernel
theorem d_Mdl_find_357 : decode b_Mdl_find 357 = .ok (.iconst 0, 1) := by decide +kernel
theorem d_Mdl_find_358 : decode b_Mdl_find 358 = .ok (.ireturn, 1) := by decide +kernel
theorem d_Mdl_find_359 : decode b_Mdl_find 359 = .ok (.iconst 1, 1) := by decide +kernel
theorem d_Mdl_find_360 : decode b_Mdl_find 360 = .ok (.ireturn, 1) := by decide +kernel
theorem d_Mdl_load_0 : decode b_Mdl_load 0 = .ok (.iload_n 1, 1) := by decide +kernel
theorem d_Mdl_load_1 : decode b_Mdl_load 1 = .ok (.ifCond .eq 14, 3) := by decide +kernel
theorem d_Mdl_load_4 : decode b_Mdl_load 4 = .ok (.aload_n 0, 1) := by decide +kernel
theorem d_Mdl_load_5 : decode b_Mdl_load 5 = .ok (.aload_n 0, 1) := by decide +kernel
theorem d_Mdl_load_6 : decode b_Mdl_load 6 = .ok (.getfield 92, 3) := by decide +kernel
theorem d_Mdl_load_9 : decode b_Mdl_load 9 = .ok (.invokevirtual 37, 3) := by decide +kernel
theorem d_Mdl_load_12 : decode b_Mdl_load 12 = .ok (.goto 15, 3) := by decide +kernel
theorem d_Mdl_load_15 : decode b_Mdl_load 15 = .ok (.aload_n 0, 1) := by decide +kernel
theorem d_Mdl_load_16 : decode b_Mdl_load 16 = .ok (.aload_n 0, 1) := by decide +kernel
theorem d_Mdl_load_17 : decode b_Mdl_load 17 = .ok (.getfield 92, 3) := by decide +kernel
theorem d_Mdl_load_20 : decode b_Mdl_load 20 = .ok (.aload_n 0, 1) := by decide +kernel
theorem d_Mdl_load_21 : decode b_Mdl_load 21 = .ok (.getfield 95, 3) := by decide +kernel
theorem d_Mdl_load_24 : decode b_Mdl_load 24 = .ok (.invokevirtual 111, 3) := by decide +kernel
theorem d_Mdl_load_27 : decode b_Mdl_load 27 = .ok (.ireturn, 1) := by decide +kernel
theorem d_Mdl_store_0 : decode b_Mdl_store 0 = .ok (.aload_n 0, 1) := by decide +kernel
theorem d_Mdl_store_1 : decode b_Mdl_store 1 = .ok (.aload_n 0, 1) := by decide +kernel
theorem d_Mdl_store_2 : decode b_Mdl_store 2 = .ok (.getfield 92, 3) := by decide +kernel
theorem d_Mdl_store_5 : decode b_Mdl_store 5 = .ok (.iload_n 1, 1) := by decide +kernel
theorem d_Mdl_store_6 : decode b_Mdl_store 6 = .ok (.invokevirtual 44, 3) := by decide +kernel
theorem d_Mdl_store_9 : decode b_Mdl_store 9 = .ok (.iload_n 2, 1) := by decide +kernel
theorem d_Mdl_store_10 : decode b_Mdl_store 10 = .ok (.ifCond .ne 23, 3) := by decide +kernel
theorem d_Mdl_store_13 : decode b_Mdl_store 13 = .ok (.aload_n 0, 1) := by decide +kernel
theorem d_Mdl_store_14 : decode b_Mdl_store 14 = .ok (.aload_n 0, 1) := by decide +kernel
theorem d_Mdl_store_15 : decode b_Mdl_store 15 = .ok (.aload_n 0, 1) := by decide +kernel
theorem d_Mdl_store_16 : decode b_Mdl_store 16 = .ok (.getfield 92, 3) := by decide +kernel
theorem d_Mdl_store_19 : decode b_Mdl_store 19 = .ok (.aload_n 0, 1) := by decide +kernel
theorem d_Mdl_store_20 : decode b_Mdl_store 20 = .ok (.getfield 95, 3) := by decide +kernel
theorem d_Mdl_store_23 : decode b_Mdl_store 23 = .ok (.invokevirtual 40, 3) := by decide +kernel
theorem d_Mdl_store_26 : decode b_Mdl_store 26 = .ok (.iload_n 1, 1) := by decide +kernel
theorem d_Mdl_store_27 : decode b_Mdl_store 27 = .ok (.bipush 8, 2) := by decide +kernel
theorem d_Mdl_store_29 : decode b_Mdl_store 29 = .ok (.ishr, 1) := by decide +kernel
theorem d_Mdl_store_30 : decode b_Mdl_store 30 = .ok (.invokevirtual 44, 3) := by decide +kernel
theorem d_Mdl_store_33 : decode b_Mdl_store 33 = .ok (.return_, 1) := by decide +kernel
theorem d_Mdl_immediate_0 : decode b_Mdl_immediate 0 = .ok (.iload_n 1, 1) := by decide +kernel
theorem d_Mdl_immediate_1 : decode b_Mdl_immediate 1 = .ok (.ifCond .eq 10, 3) := by decide +kernel
theorem d_Mdl_immediate_4 : decode b_Mdl_immediate 4 = .ok (.aload_n 0, 1) := by decide +kernel
theorem d_Mdl_immediate_5 : decode b_Mdl_immediate 5 = .ok (.invokevirtual 61, 3) := by decide +kernel
theorem d_Mdl_immediate_8 : decode b_Mdl_immediate 8 = .ok (.goto 7, 3) := by decide +kernel
theorem d_Mdl_immediate_11 : decode b_Mdl_immediate 11 = .ok (.aload_n 0, 1) := by decide +kernel
theorem d_Mdl_immediate_12 : decode b_Mdl_immediate 12 = .ok (.invokevirtual 64, 3) := by decide +kernel
theorem d_Mdl_immediate_15 : decode b_Mdl_immediate 15 = .ok (.ireturn, 1) := by decide +kernel
theorem d_Mdl_add_0 : decode b_Mdl_add 0 = .ok (.aload_n 0, 1) := by decide +kernel
theorem d_Mdl_add_1 : decode b_Mdl_add 1 = .ok (.bipush 32, 2) := by decide +kernel
theorem d_Mdl_add_3 : decode b_Mdl_add 3 = .ok (.invokevirtual 67, 3) := by decide +kernel
theorem d_Mdl_add_6 : decode b_Mdl_add 6 = .ok (.istore_n 2, 1) := by decide +kernel
theorem d_Mdl_add_7 : decode b_Mdl_add 7 = .ok (.aload_n 0, 1) := by decide +kernel
theorem d_Mdl_add_8 : decode b_Mdl_add 8 = .ok (.invokevirtual 114, 3) := by decide +kernel
theorem d_Mdl_add_11 : decode b_Mdl_add 11 = .ok (.istore_n 3, 1) := by decide +kernel
theorem d_Mdl_add_12 : decode b_Mdl_add 12 = .ok (.iload_n 3, 1) := by decide +kernel
theorem d_Mdl_add_13 : decode b_Mdl_add 13 = .ok (.iload_n 1, 1) := by decide +kernel
theorem d_Mdl_add_14 : decode b_Mdl_add 14 = .ok (.iadd, 1) := by decide +kernel
theorem d_Mdl_add_15 : decode b_Mdl_add 15 = .ok (.aload_n 0, 1) := by decide +kernel
theorem d_Mdl_add_16 : decode b_Mdl_add 16 = .ok (.iconst 1, 1) := by decide +kernel
theorem d_Mdl_add_17 : decode b_Mdl_add 17 = .ok (.invokevirtual 67, 3) := by decide +kernel
theorem d_Mdl_add_20 : decode b_Mdl_add 20 = .ok (.ifCond .eq 7, 3) := by decide +kernel
theorem d_Mdl_add_23 : decode b_Mdl_add 23 = .ok (.iconst 1, 1) := by decide +kernel
theorem d_Mdl_add_24 : decode b_Mdl_add 24 = .ok (.goto 4, 3) := by decide +kernel
theorem d_Mdl_add_27 : decode b_Mdl_add 27 = .ok (.iconst 0, 1) := by decide +kernel
theorem d_Mdl_add_28 : decode b_Mdl_add 28 = .ok (.iadd, 1) := by decide +kernel
theorem d_Mdl_add_29 : decode b_Mdl_add 29 = .ok (.istore 4, 2) := by decide +kernel
theorem d_Mdl_add_31 : decode b_Mdl_add 31 = .ok (.iload_n 2, 1) := by decide +kernel
theorem d_Mdl_add_32 : decode b_Mdl_add 32 = .ok (.ifCond .eq 9, 3) := by decide +kernel
theorem d_Mdl_add_35 : decode b_Mdl_add 35 = .ok (.sipush 128, 3) := by decide +kernel
theorem d_Mdl_add_38 : decode b_Mdl_add 38 = .ok (.goto 5, 3) := by decide +kernel
theorem d_Mdl_add_41 : decode b_Mdl_add 41 = .ok (.ldc 78, 2) := by decide +kernel
theorem d_Mdl_add_43 : decode b_Mdl_add 43 = .ok (.istore 5, 2) := by decide +kernel
theorem d_Mdl_add_45 : decode b_Mdl_add 45 = .ok (.aload_n 0, 1) := by decide +kernel
theorem d_Mdl_add_46 : decode b_Mdl_add 46 = .ok (.iconst 1, 1) := by decide +kernel
theorem d_Mdl_add_47 : decode b_Mdl_add 47 = .ok (.iload 4, 2) := by decide +kernel
theorem d_Mdl_add_49 : decode b_Mdl_add 49 = .ok (.iload_n 2, 1) := by decide +kernel
theorem d_Mdl_add_50 : decode b_Mdl_add 50 = .ok (.ifCond .eq 9, 3) := by decide +kernel
theorem d_Mdl_add_53 : decode b_Mdl_add 53 = .ok (.sipush 255, 3) := by decide +kernel
theorem d_Mdl_add_56 : decode b_Mdl_add 56 = .ok (.goto 5, 3) := by decide +kernel
theorem d_Mdl_add_59 : decode b_Mdl_add 59 = .ok (.ldc 35, 2) := by decide +kernel
theorem d_Mdl_add_61 : decode b_Mdl_add 61 = .ok (.if_icmp .le 7, 3) := by decide +kernel
theorem d_Mdl_add_64 : decode b_Mdl_add 64 = .ok (.iconst 1, 1) := by decide +kernel
theorem d_Mdl_add_65 : decode b_Mdl_add 65 = .ok (.goto 4, 3) := by decide +kernel
theorem d_Mdl_add_68 : decode b_Mdl_add 68 = .ok (.iconst 0, 1) := by decide +kernel
theorem d_Mdl_add_69 : decode b_Mdl_add 69 = .ok (.invokevirtual 79, 3) := by decide +kernel
theorem d_Mdl_add_72 : decode b_Mdl_add 72 = .ok (.aload_n 0, 1) := by decide +kernel
theorem d_Mdl_add_73 : decode b_Mdl_add 73 = .ok (.bipush 64, 2) := by decide +kernel
theorem d_Mdl_add_75 : decode b_Mdl_add 75 = .ok (.iload_n 3, 1) := by decide +kernel
theorem d_Mdl_add_76 : decode b_Mdl_add 76 = .ok (.iload 4, 2) := by decide +kernel
theorem d_Mdl_add_78 : decode b_Mdl_add 78 = .ok (.ixor, 1) := by decide +kernel
theorem d_Mdl_add_79 : decode b_Mdl_add 79 = .ok (.iload_n 1, 1) := by decide +kernel
theorem d_Mdl_add_80 : decode b_Mdl_add 80 = .ok (.iload 4, 2) := by decide +kernel
theorem d_Mdl_add_82 : decode b_Mdl_add 82 = .ok (.ixor, 1) := by decide +kernel
theorem d_Mdl_add_83 : decode b_Mdl_add 83 = .ok (.iand, 1) := by decide +kernel
theorem d_Mdl_add_84 : decode b_Mdl_add 84 = .ok (.iload 5, 2) := by decide +kernel
theorem d_Mdl_add_86 : decode b_Mdl_add 86 = .ok (.iand, 1) := by decide +kernel
theorem d_Mdl_add_87 : decode b_Mdl_add 87 = .ok (.ifCond .eq 7, 3) := by decide +kernel
theorem d_Mdl_add_90 : decode b_Mdl_add 90 = .ok (.iconst 1, 1) := by decide +kernel
theorem d_Mdl_add_91 : decode b_Mdl_add 91 = .ok (.goto 4, 3) := by decide +kernel
theorem d_Mdl_add_94 : decode b_Mdl_add 94 = .ok (.iconst 0, 1) := by decide +kernel
theorem d_Mdl_add_95 : decode b_Mdl_add 95 = .ok (.invokevirtual 79, 3) := by decide +kernel
theorem d_Mdl_add_98 : decode b_Mdl_add 98 = .ok (.aload_n 0, 1) := by decide +kernel
theorem d_Mdl_add_99 : decode b_Mdl_add 99 = .ok (.aload_n 0, 1) := by decide +kernel
theorem d_Mdl_add_100 : decode b_Mdl_add 100 = .ok (.iload 4, 2) := by decide +kernel
theorem d_Mdl_add_102 : decode b_Mdl_add 102 = .ok (.iload_n 2, 1) := by decide +kernel
theorem d_Mdl_add_103 : decode b_Mdl_add 103 = .ok (.invokevirtual 117, 3) := by decide +kernel
theorem d_Mdl_add_106 : decode b_Mdl_add 106 = .ok (.invokevirtual 120, 3) := by decide +kernel
theorem d_Mdl_add_109 : decode b_Mdl_add 109 = .ok (.return_, 1) := by decide +kernel
theorem d_Mdl_compare_0 : decode b_Mdl_compare 0 = .ok (.aload_n 0, 1) := by decide +kernel
theorem d_Mdl_compare_1 : decode b_Mdl_compare 1 = .ok (.iload_n 1, 1) := by decide +kernel
theorem d_Mdl_compare_2 : decode b_Mdl_compare 2 = .ok (.iload_n 2, 1) := by decide +kernel
theorem d_Mdl_compare_3 : decode b_Mdl_compare 3 = .ok (.isub, 1) := by decide +kernel
theorem d_Mdl_compare_4 : decode b_Mdl_compare 4 = .ok (.iload_n 3, 1) := by decide +kernel
theorem d_Mdl_compare_5 : decode b_Mdl_compare 5 = .ok (.invokevirtual 117, 3) := by decide +kernel
theorem d_Mdl_compare_8 : decode b_Mdl_compare 8 = .ok (.istore 4, 2) := by decide +kernel
theorem d_Mdl_compare_10 : decode b_Mdl_compare 10 = .ok (.aload_n 0, 1) := by decide +kernel
theorem d_Mdl_compare_11 : decode b_Mdl_compare 11 = .ok (.iconst 1, 1) := by decide +kernel
theorem d_Mdl_compare_12 : decode b_Mdl_compare 12 = .ok (.iload_n 1, 1) := by decide +kernel
theorem d_Mdl_compare_13 : decode b_Mdl_compare 13 = .ok (.iload_n 2, 1) := by decide +kernel
theorem d_Mdl_compare_14 : decode b_Mdl_compare 14 = .ok (.if_icmp .lt 7, 3) := by decide +kernel
theorem d_Mdl_compare_17 : decode b_Mdl_compare 17 = .ok (.iconst 1, 1) := by decide +kernel
theorem d_Mdl_compare_18 : decode b_Mdl_compare 18 = .ok (.goto 4, 3) := by decide +kernel
theorem d_Mdl_compare_21 : decode b_Mdl_compare 21 = .ok (.iconst 0, 1) := by decide +kernel
theorem d_Mdl_compare_22 : decode b_Mdl_compare 22 = .ok (.invokevirtual 79, 3) := by decide +kernel
theorem d_Mdl_compare_25 : decode b_Mdl_compare 25 = .ok (.return_, 1) := by decide +kernel
theorem d_Mdl_arithmetic_0 : decode b_Mdl_arithmetic 0 = .ok (.iload_n 1, 1) := by decide +kernel
theorem d_Mdl_arithmetic_1 : decode b_Mdl_arithmetic 1 = .ok (.iconst 5, 1) := by decide +kernel
theorem d_Mdl_arithmetic_2 : decode b_Mdl_arithmetic 2 = .ok (.ishr, 1) := by decide +kernel
theorem d_Mdl_arithmetic_3 : decode b_Mdl_arithmetic 3 = .ok (.istore_n 2, 1) := by decide +kernel
theorem d_Mdl_arithmetic_4 : decode b_Mdl_arithmetic 4 = .ok (.iload_n 1, 1) := by decide +kernel
theorem d_Mdl_arithmetic_5 : decode b_Mdl_arithmetic 5 = .ok (.bipush 31, 2) := by decide +kernel
theorem d_Mdl_arithmetic_7 : decode b_Mdl_arithmetic 7 = .ok (.iand, 1) := by decide +kernel
theorem d_Mdl_arithmetic_8 : decode b_Mdl_arithmetic 8 = .ok (.istore_n 3, 1) := by decide +kernel
theorem d_Mdl_arithmetic_9 : decode b_Mdl_arithmetic 9 = .ok (.aload_n 0, 1) := by decide +kernel
theorem d_Mdl_arithmetic_10 : decode b_Mdl_arithmetic 10 = .ok (.bipush 32, 2) := by decide +kernel
theorem d_Mdl_arithmetic_12 : decode b_Mdl_arithmetic 12 = .ok (.invokevirtual 67, 3) := by decide +kernel
theorem d_Mdl_arithmetic_15 : decode b_Mdl_arithmetic 15 = .ok (.istore 4, 2) := by decide +kernel
theorem d_Mdl_arithmetic_17 : decode b_Mdl_arithmetic 17 = .ok (.iload_n 3, 1) := by decide +kernel
theorem d_Mdl_arithmetic_18 : decode b_Mdl_arithmetic 18 = .ok (.bipush 9, 2) := by decide +kernel
theorem d_Mdl_arithmetic_20 : decode b_Mdl_arithmetic 20 = .ok (.if_icmp .ne 7, 3) := by decide +kernel
theorem d_Mdl_arithmetic_23 : decode b_Mdl_arithmetic 23 = .ok (.iconst 1, 1) := by decide +kernel
theorem d_Mdl_arithmetic_24 : decode b_Mdl_arithmetic 24 = .ok (.goto 4, 3) := by decide +kernel
theorem d_Mdl_arithmetic_27 : decode b_Mdl_arithmetic 27 = .ok (.iconst 0, 1) := by decide +kernel
theorem d_Mdl_arithmetic_28 : decode b_Mdl_arithmetic 28 = .ok (.istore 5, 2) := by decide +kernel
theorem d_Mdl_arithmetic_30 : decode b_Mdl_arithmetic 30 = .ok (.iload 5, 2) := by decide +kernel
theorem d_Mdl_arithmetic_32 : decode b_Mdl_arithmetic 32 = .ok (.ifCond .eq 8, 3) := by decide +kernel
theorem d_Mdl_arithmetic_35 : decode b_Mdl_arithmetic 35 = .ok (.iload_n 2, 1) := by decide +kernel
theorem d_Mdl_arithmetic_36 : decode b_Mdl_arithmetic 36 = .ok (.iconst 4, 1) := by decide +kernel
theorem d_Mdl_arithmetic_37 : decode b_Mdl_arithmetic 37 = .ok (.if_icmp .eq 16, 3) := by decide +kernel
theorem d_Mdl_arithmetic_40 : decode b_Mdl_arithmetic 40 = .ok (.iload 5, 2) := by decide +kernel
theorem d_Mdl_arithmetic_42 : decode b_Mdl_arithmetic 42 = .ok (.ifCond .ne 13, 3) := by decide +kernel
theorem d_Mdl_arithmetic_45 : decode b_Mdl_arithmetic 45 = .ok (.aload_n 0, 1) := by decide +kernel
theorem d_Mdl_arithmetic_46 : decode b_Mdl_arithmetic 46 = .ok (.iload_n 3, 1) := by decide +kernel
theorem d_Mdl_arithmetic_47 : decode b_Mdl_arithmetic 47 = .ok (.invokevirtual 123, 3) := by decide +kernel
theorem d_Mdl_arithmetic_50 : decode b_Mdl_arithmetic 50 = .ok (.ifCond .ne 5, 3) := by decide +kernel
theorem d_Mdl_arithmetic_53 : decode b_Mdl_arithmetic 53 = .ok (.iconst 0, 1) := by decide +kernel
theorem d_Mdl_arithmetic_54 : decode b_Mdl_arithmetic 54 = .ok (.ireturn, 1) := by decide +kernel
theorem d_Mdl_arithmetic_55 : decode b_Mdl_arithmetic 55 = .ok (.iload_n 2, 1) := by decide +kernel
theorem d_Mdl_arithmetic_56 : decode b_Mdl_arithmetic 56 = .ok (.iconst 4, 1) := by decide +kernel
theorem d_Mdl_arithmetic_57 : decode b_Mdl_arithmetic 57 = .ok (.if_icmp .ne 15, 3) := by decide +kernel
theorem d_Mdl_arithmetic_60 : decode b_Mdl_arithmetic 60 = .ok (.aload_n 0, 1) := by decide +kernel
theorem d_Mdl_arithmetic_61 : decode b_Mdl_arithmetic 61 = .ok (.aload_n 0, 1) := by decide +kernel
theorem d_Mdl_arithmetic_62 : decode b_Mdl_arithmetic 62 = .ok (.invokevirtual 114, 3) := by decide +kernel
theorem d_Mdl_arithmetic_65 : decode b_Mdl_arithmetic 65 = .ok (.iload 4, 2) := by decide +kernel
theorem d_Mdl_arithmetic_67 : decode b_Mdl_arithmetic 67 = .ok (.invokevirtual 126, 3) := by decide +kernel
theorem d_Mdl_arithmetic_70 : decode b_Mdl_arithmetic 70 = .ok (.iconst 1, 1) := by decide +kernel
theorem d_Mdl_arithmetic_71 : decode b_Mdl_arithmetic 71 = .ok (.ireturn, 1) := by decide +kernel
