theorem d_Bus_init_0 : decode b_Bus_init 0 = .ok (.aload_n 0, 1) := by decide +kernel
theorem d_Bus_init_1 : decode b_Bus_init 1 = .ok (.invokespecial 1, 3) := by decide +kernel
theorem d_Bus_init_4 : decode b_Bus_init 4 = .ok (.aload_n 0, 1) := by decide +kernel
theorem d_Bus_init_5 : decode b_Bus_init 5 = .ok (.sipush 1024, 3) := by decide +kernel
theorem d_Bus_init_8 : decode b_Bus_init 8 = .ok (.newarray .byte, 2) := by decide +kernel
theorem d_Bus_init_10 : decode b_Bus_init 10 = .ok (.putfield 9, 3) := by decide +kernel
theorem d_Bus_init_13 : decode b_Bus_init 13 = .ok (.aload_n 0, 1) := by decide +kernel
theorem d_Bus_init_14 : decode b_Bus_init 14 = .ok (.bipush 8, 2) := by decide +kernel
theorem d_Bus_init_16 : decode b_Bus_init 16 = .ok (.newarray .int, 2) := by decide +kernel
theorem d_Bus_init_18 : decode b_Bus_init 18 = .ok (.putfield 13, 3) := by decide +kernel
theorem d_Bus_init_21 : decode b_Bus_init 21 = .ok (.return_, 1) := by decide +kernel
theorem d_Bus_longPlace_0 : decode b_Bus_longPlace 0 = .ok (.iload_n 0, 1) := by decide +kernel
theorem d_Bus_longPlace_1 : decode b_Bus_longPlace 1 = .ok (.ldc 17, 2) := by decide +kernel
theorem d_Bus_longPlace_3 : decode b_Bus_longPlace 3 = .ok (.iand, 1) := by decide +kernel
theorem d_Bus_longPlace_4 : decode b_Bus_longPlace 4 = .ok (.ireturn, 1) := by decide +kernel
theorem d_Bus_bank0Place_0 : decode b_Bus_bank0Place 0 = .ok (.ldc 18, 2) := by decide +kernel
theorem d_Bus_bank0Place_2 : decode b_Bus_bank0Place 2 = .ok (.iload_n 0, 1) := by decide +kernel
theorem d_Bus_bank0Place_3 : decode b_Bus_bank0Place 3 = .ok (.ldc 19, 2) := by decide +kernel
theorem d_Bus_bank0Place_5 : decode b_Bus_bank0Place 5 = .ok (.iand, 1) := by decide +kernel
theorem d_Bus_bank0Place_6 : decode b_Bus_bank0Place 6 = .ok (.ior, 1) := by decide +kernel
theorem d_Bus_bank0Place_7 : decode b_Bus_bank0Place 7 = .ok (.ireturn, 1) := by decide +kernel
theorem d_Bus_placeAfter_0 : decode b_Bus_placeAfter 0 = .ok (.iload_n 0, 1) := by decide +kernel
theorem d_Bus_placeAfter_1 : decode b_Bus_placeAfter 1 = .ok (.ldc 18, 2) := by decide +kernel
theorem d_Bus_placeAfter_3 : decode b_Bus_placeAfter 3 = .ok (.iand, 1) := by decide +kernel
theorem d_Bus_placeAfter_4 : decode b_Bus_placeAfter 4 = .ok (.ifCond .eq 12, 3) := by decide +kernel
theorem d_Bus_placeAfter_7 : decode b_Bus_placeAfter 7 = .ok (.iload_n 0, 1) := by decide +kernel
theorem d_Bus_placeAfter_8 : decode b_Bus_placeAfter 8 = .ok (.iconst 1, 1) := by decide +kernel
theorem d_Bus_placeAfter_9 : decode b_Bus_placeAfter 9 = .ok (.iadd, 1) := by decide +kernel
theorem d_Bus_placeAfter_10 : decode b_Bus_placeAfter 10 = .ok (.invokestatic 20, 3) := by decide +kernel
theorem d_Bus_placeAfter_13 : decode b_Bus_placeAfter 13 = .ok (.goto 9, 3) := by decide +kernel
theorem d_Bus_placeAfter_16 : decode b_Bus_placeAfter 16 = .ok (.iload_n 0, 1) := by decide +kernel
theorem d_Bus_placeAfter_17 : decode b_Bus_placeAfter 17 = .ok (.iconst 1, 1) := by decide +kernel
theorem d_Bus_placeAfter_18 : decode b_Bus_placeAfter 18 = .ok (.iadd, 1) := by decide +kernel
theorem d_Bus_placeAfter_19 : decode b_Bus_placeAfter 19 = .ok (.invokestatic 24, 3) := by decide +kernel
theorem d_Bus_placeAfter_22 : decode b_Bus_placeAfter 22 = .ok (.ireturn, 1) := by decide +kernel
theorem d_Bus_cellOf_0 : decode b_Bus_cellOf 0 = .ok (.iload_n 0, 1) := by decide +kernel
theorem d_Bus_cellOf_1 : decode b_Bus_cellOf 1 = .ok (.bipush 7, 2) := by decide +kernel
theorem d_Bus_cellOf_3 : decode b_Bus_cellOf 3 = .ok (.ishr, 1) := by decide +kernel
theorem d_Bus_cellOf_4 : decode b_Bus_cellOf 4 = .ok (.sipush 512, 3) := by decide +kernel
theorem d_Bus_cellOf_7 : decode b_Bus_cellOf 7 = .ok (.iand, 1) := by decide +kernel
theorem d_Bus_cellOf_8 : decode b_Bus_cellOf 8 = .ok (.iload_n 0, 1) := by decide +kernel
theorem d_Bus_cellOf_9 : decode b_Bus_cellOf 9 = .ok (.sipush 511, 3) := by decide +kernel
theorem d_Bus_cellOf_12 : decode b_Bus_cellOf 12 = .ok (.iand, 1) := by decide +kernel
theorem d_Bus_cellOf_13 : decode b_Bus_cellOf 13 = .ok (.ior, 1) := by decide +kernel
theorem d_Bus_cellOf_14 : decode b_Bus_cellOf 14 = .ok (.ireturn, 1) := by decide +kernel
theorem d_Bus_programByte_0 : decode b_Bus_programByte 0 = .ok (.aload_n 0, 1) := by decide +kernel
theorem d_Bus_programByte_1 : decode b_Bus_programByte 1 = .ok (.getfield 9, 3) := by decide +kernel
theorem d_Bus_programByte_4 : decode b_Bus_programByte 4 = .ok (.sipush 512, 3) := by decide +kernel
theorem d_Bus_programByte_7 : decode b_Bus_programByte 7 = .ok (.iload_n 1, 1) := by decide +kernel
theorem d_Bus_programByte_8 : decode b_Bus_programByte 8 = .ok (.iconst 1, 1) := by decide +kernel
theorem d_Bus_programByte_9 : decode b_Bus_programByte 9 = .ok (.iand, 1) := by decide +kernel
theorem d_Bus_programByte_10 : decode b_Bus_programByte 10 = .ok (.imul, 1) := by decide +kernel
theorem d_Bus_programByte_11 : decode b_Bus_programByte 11 = .ok (.iload_n 2, 1) := by decide +kernel
theorem d_Bus_programByte_12 : decode b_Bus_programByte 12 = .ok (.sipush 511, 3) := by decide +kernel
theorem d_Bus_programByte_15 : decode b_Bus_programByte 15 = .ok (.iand, 1) := by decide +kernel
theorem d_Bus_programByte_16 : decode b_Bus_programByte 16 = .ok (.iadd, 1) := by decide +kernel
theorem d_Bus_programByte_17 : decode b_Bus_programByte 17 = .ok (.baload, 1) := by decide +kernel
theorem d_Bus_programByte_18 : decode b_Bus_programByte 18 = .ok (.sipush 255, 3) := by decide +kernel
theorem d_Bus_programByte_21 : decode b_Bus_programByte 21 = .ok (.iand, 1) := by decide +kernel
theorem d_Bus_programByte_22 : decode b_Bus_programByte 22 = .ok (.ireturn, 1) := by decide +kernel
theorem d_Bus_readByte_0 : decode b_Bus_readByte 0 = .ok (.iload_n 1, 1) := by decide +kernel
theorem d_Bus_readByte_1 : decode b_Bus_readByte 1 = .ok (.invokestatic 27, 3) := by decide +kernel
theorem d_Bus_readByte_4 : decode b_Bus_readByte 4 = .ok (.istore_n 2, 1) := by decide +kernel
theorem d_Bus_readByte_5 : decode b_Bus_readByte 5 = .ok (.aload_n 0, 1) := by decide +kernel
theorem d_Bus_readByte_6 : decode b_Bus_readByte 6 = .ok (.getfield 13, 3) := by decide +kernel
theorem d_Bus_readByte_9 : decode b_Bus_readByte 9 = .ok (.aload_n 0, 1) := by decide +kernel
theorem d_Bus_readByte_10 : decode b_Bus_readByte 10 = .ok (.getfield 30, 3) := by decide +kernel
theorem d_Bus_readByte_13 : decode b_Bus_readByte 13 = .ok (.bipush 7, 2) := by decide +kernel
theorem d_Bus_readByte_15 : decode b_Bus_readByte 15 = .ok (.iand, 1) := by decide +kernel
theorem d_Bus_readByte_16 : decode b_Bus_readByte 16 = .ok (.iload_n 2, 1) := by decide +kernel
theorem d_Bus_readByte_17 : decode b_Bus_readByte 17 = .ok (.iastore, 1) := by decide +kernel
theorem d_Bus_readByte_18 : decode b_Bus_readByte 18 = .ok (.aload_n 0, 1) := by decide +kernel
theorem d_Bus_readByte_19 : decode b_Bus_readByte 19 = .ok (.dup, 1) := by decide +kernel
theorem d_Bus_readByte_20 : decode b_Bus_readByte 20 = .ok (.getfield 30, 3) := by decide +kernel
theorem d_Bus_readByte_23 : decode b_Bus_readByte 23 = .ok (.iconst 1, 1) := by decide +kernel
theorem d_Bus_readByte_24 : decode b_Bus_readByte 24 = .ok (.iadd, 1) := by decide +kernel
theorem d_Bus_readByte_25 : decode b_Bus_readByte 25 = .ok (.putfield 30, 3) := by decide +kernel
theorem d_Bus_readByte_28 : decode b_Bus_readByte 28 = .ok (.aload_n 0, 1) := by decide +kernel
theorem d_Bus_readByte_29 : decode b_Bus_readByte 29 = .ok (.getfield 9, 3) := by decide +kernel
theorem d_Bus_readByte_32 : decode b_Bus_readByte 32 = .ok (.iload_n 2, 1) := by decide +kernel
theorem d_Bus_readByte_33 : decode b_Bus_readByte 33 = .ok (.baload, 1) := by decide +kernel
theorem d_Bus_readByte_34 : decode b_Bus_readByte 34 = .ok (.sipush 255, 3) := by decide +kernel
theorem d_Bus_readByte_37 : decode b_Bus_readByte 37 = .ok (.iand, 1) := by decide +kernel
theorem d_Bus_readByte_38 : decode b_Bus_readByte 38 = .ok (.ireturn, 1) := by decide +kernel
theorem d_Bus_writeByte_0 : decode b_Bus_writeByte 0 = .ok (.iload_n 1, 1) := by decide +kernel
theorem d_Bus_writeByte_1 : decode b_Bus_writeByte 1 = .ok (.invokestatic 27, 3) := by decide +kernel
theorem d_Bus_writeByte_4 : decode b_Bus_writeByte 4 = .ok (.istore_n 3, 1) := by decide +kernel
theorem d_Bus_writeByte_5 : decode b_Bus_writeByte 5 = .ok (.aload_n 0, 1) := by decide +kernel
theorem d_Bus_writeByte_6 : decode b_Bus_writeByte 6 = .ok (.getfield 13, 3) := by decide +kernel
theorem d_Bus_writeByte_9 : decode b_Bus_writeByte 9 = .ok (.aload_n 0, 1) := by decide +kernel
theorem d_Bus_writeByte_10 : decode b_Bus_writeByte 10 = .ok (.getfield 30, 3) := by decide +kernel
theorem d_Bus_writeByte_13 : decode b_Bus_writeByte 13 = .ok (.bipush 7, 2) := by decide +kernel
theorem d_Bus_writeByte_15 : decode b_Bus_writeByte 15 = .ok (.iand, 1) := by decide +kernel
theorem d_Bus_writeByte_16 : decode b_Bus_writeByte 16 = .ok (.iload_n 3, 1) := by decide +kernel
theorem d_Bus_writeByte_17 : decode b_Bus_writeByte 17 = .ok (.sipush 1024, 3) := by decide +kernel
theorem d_Bus_writeByte_20 : decode b_Bus_writeByte 20 = .ok (.iadd, 1) := by decide +kernel
theorem d_Bus_writeByte_21 : decode b_Bus_writeByte 21 = .ok (.iastore, 1) := by decide +kernel
theorem d_Bus_writeByte_22 : decode b_Bus_writeByte 22 = .ok (.aload_n 0, 1) := by decide +kernel
theorem d_Bus_writeByte_23 : decode b_Bus_writeByte 23 = .ok (.dup, 1) := by decide +kernel
theorem d_Bus_writeByte_24 : decode b_Bus_writeByte 24 = .ok (.getfield 30, 3) := by decide +kernel
theorem d_Bus_writeByte_27 : decode b_Bus_writeByte 27 = .ok (.iconst 1, 1) := by decide +kernel
theorem d_Bus_writeByte_28 : decode b_Bus_writeByte 28 = .ok (.iadd, 1) := by decide +kernel
theorem d_Bus_writeByte_29 : decode b_Bus_writeByte 29 = .ok (.putfield 30, 3) := by decide +kernel
theorem d_Bus_writeByte_32 : decode b_Bus_writeByte 32 = .ok (.aload_n 0, 1) := by decide +kernel
theorem d_Bus_writeByte_33 : decode b_Bus_writeByte 33 = .ok (.getfield 9, 3) := by decide +kernel
theorem d_Bus_writeByte_36 : decode b_Bus_writeByte 36 = .ok (.iload_n 3, 1) := by decide +kernel
theorem d_Bus_writeByte_37 : decode b_Bus_writeByte 37 = .ok (.iload_n 2, 1) := by decide +kernel
theorem d_Bus_writeByte_38 : decode b_Bus_writeByte 38 = .ok (.i2b, 1) := by decide +kernel
theorem d_Bus_writeByte_39 : decode b_Bus_writeByte 39 = .ok (.bastore, 1) := by decide +kernel
theorem d_Bus_writeByte_40 : decode b_Bus_writeByte 40 = .ok (.return_, 1) := by decide +kernel
theorem d_Bus_readWord_0 : decode b_Bus_readWord 0 = .ok (.aload_n 0, 1) := by decide +kernel
theorem d_Bus_readWord_1 : decode b_Bus_readWord 1 = .ok (.iload_n 1, 1) := by decide +kernel
theorem d_Bus_readWord_2 : decode b_Bus_readWord 2 = .ok (.invokevirtual 34, 3) := by decide +kernel
theorem d_Bus_readWord_5 : decode b_Bus_readWord 5 = .ok (.istore_n 2, 1) := by decide +kernel
theorem d_Bus_readWord_6 : decode b_Bus_readWord 6 = .ok (.iload_n 2, 1) := by decide +kernel
theorem d_Bus_readWord_7 : decode b_Bus_readWord 7 = .ok (.aload_n 0, 1) := by decide +kernel
theorem d_Bus_readWord_8 : decode b_Bus_readWord 8 = .ok (.iload_n 1, 1) := by decide +kernel
theorem d_Bus_readWord_9 : decode b_Bus_readWord 9 = .ok (.invokestatic 37, 3) := by decide +kernel
theorem d_Bus_readWord_12 : decode b_Bus_readWord 12 = .ok (.invokevirtual 34, 3) := by decide +kernel
theorem d_Bus_readWord_15 : decode b_Bus_readWord 15 = .ok (.bipush 8, 2) := by decide +kernel
theorem d_Bus_readWord_17 : decode b_Bus_readWord 17 = .ok (.ishl, 1) := by decide +kernel
theorem d_Bus_readWord_18 : decode b_Bus_readWord 18 = .ok (.ior, 1) := by decide +kernel
theorem d_Bus_readWord_19 : decode b_Bus_readWord 19 = .ok (.ireturn, 1) := by decide +kernel
theorem d_Bus_readLong_0 : decode b_Bus_readLong 0 = .ok (.iload_n 1, 1) := by decide +kernel
theorem d_Bus_readLong_1 : decode b_Bus_readLong 1 = .ok (.invokestatic 37, 3) := by decide +kernel
theorem d_Bus_readLong_4 : decode b_Bus_readLong 4 = .ok (.istore_n 2, 1) := by decide +kernel
theorem d_Bus_readLong_5 : decode b_Bus_readLong 5 = .ok (.aload_n 0, 1) := by decide +kernel
theorem d_Bus_readLong_6 : decode b_Bus_readLong 6 = .ok (.iload_n 1, 1) := by decide +kernel
theorem d_Bus_readLong_7 : decode b_Bus_readLong 7 = .ok (.invokevirtual 34, 3) := by decide +kernel
theorem d_Bus_readLong_10 : decode b_Bus_readLong 10 = .ok (.istore_n 3, 1) := by decide +kernel
theorem d_Bus_readLong_11 : decode b_Bus_readLong 11 = .ok (.aload_n 0, 1) := by decide +kernel
theorem d_Bus_readLong_12 : decode b_Bus_readLong 12 = .ok (.iload_n 2, 1) := by decide +kernel
theorem d_Bus_readLong_13 : decode b_Bus_readLong 13 = .ok (.invokevirtual 34, 3) := by decide +kernel
theorem d_Bus_readLong_16 : decode b_Bus_readLong 16 = .ok (.istore 4, 2) := by decide +kernel
theorem d_Bus_readLong_18 : decode b_Bus_readLong 18 = .ok (.iload_n 3, 1) := by decide +kernel
theorem d_Bus_readLong_19 : decode b_Bus_readLong 19 = .ok (.iload 4, 2) := by decide +kernel
theorem d_Bus_readLong_21 : decode b_Bus_readLong 21 = .ok (.bipush 8, 2) := by decide +kernel
theorem d_Bus_readLong_23 : decode b_Bus_readLong 23 = .ok (.ishl, 1) := by decide +kernel
theorem d_Bus_readLong_24 : decode b_Bus_readLong 24 = .ok (.ior, 1) := by decide +kernel
theorem d_Bus_readLong_25 : decode b_Bus_readLong 25 = .ok (.aload_n 0, 1) := by decide +kernel
theorem d_Bus_readLong_26 : decode b_Bus_readLong 26 = .ok (.iload_n 2, 1) := by decide +kernel
theorem d_Bus_readLong_27 : decode b_Bus_readLong 27 = .ok (.invokestatic 37, 3) := by decide +kernel
theorem d_Bus_readLong_30 : decode b_Bus_readLong 30 = .ok (.invokevirtual 34, 3) := by decide +kernel
theorem d_Bus_readLong_33 : decode b_Bus_readLong 33 = .ok (.bipush 16, 2) := by decide +kernel
theorem d_Bus_readLong_35 : decode b_Bus_readLong 35 = .ok (.ishl, 1) := by decide +kernel
theorem d_Bus_readLong_36 : decode b_Bus_readLong 36 = .ok (.ior, 1) := by decide +kernel
theorem d_Bus_readLong_37 : decode b_Bus_readLong 37 = .ok (.ireturn, 1) := by decide +kernel
theorem d_Bus_readValue_0 : decode b_Bus_readValue 0 = .ok (.iload_n 2, 1) := by decide +kernel
theorem d_Bus_readValue_1 : decode b_Bus_readValue 1 = .ok (.ifCond .eq 11, 3) := by decide +kernel
theorem d_Bus_readValue_4 : decode b_Bus_readValue 4 = .ok (.aload_n 0, 1) := by decide +kernel
theorem d_Bus_readValue_5 : decode b_Bus_readValue 5 = .ok (.iload_n 1, 1) := by decide +kernel
theorem d_Bus_readValue_6 : decode b_Bus_readValue 6 = .ok (.invokevirtual 40, 3) := by decide +kernel
theorem d_Bus_readValue_9 : decode b_Bus_readValue 9 = .ok (.goto 8, 3) := by decide +kernel
theorem d_Bus_readValue_12 : decode b_Bus_readValue 12 = .ok (.aload_n 0, 1) := by decide +kernel
theorem d_Bus_readValue_13 : decode b_Bus_readValue 13 = .ok (.iload_n 1, 1) := by decide +kernel
theorem d_Bus_readValue_14 : decode b_Bus_readValue 14 = .ok (.invokevirtual 34, 3) := by decide +kernel
theorem d_Bus_readValue_17 : decode b_Bus_readValue 17 = .ok (.ireturn, 1) := by decide +kernel
theorem d_Bus_writeValue_0 : decode b_Bus_writeValue 0 = .ok (.aload_n 0, 1) := by decide +kernel
theorem d_Bus_writeValue_1 : decode b_Bus_writeValue 1 = .ok (.iload_n 1, 1) := by decide +kernel
theorem d_Bus_writeValue_2 : decode b_Bus_writeValue 2 = .ok (.iload_n 2, 1) := by decide +kernel
theorem d_Bus_writeValue_3 : decode b_Bus_writeValue 3 = .ok (.invokevirtual 43, 3) := by decide +kernel
theorem d_Bus_writeValue_6 : decode b_Bus_writeValue 6 = .ok (.iload_n 3, 1) := by decide +kernel
theorem d_Bus_writeValue_7 : decode b_Bus_writeValue 7 = .ok (.ifCond .eq 15, 3) := by decide +kernel
theorem d_Bus_writeValue_10 : decode b_Bus_writeValue 10 = .ok (.aload_n 0, 1) := by decide +kernel
theorem d_Bus_writeValue_11 : decode b_Bus_writeValue 11 = .ok (.iload_n 1, 1) := by decide +kernel
theorem d_Bus_writeValue_12 : decode b_Bus_writeValue 12 = .ok (.invokestatic 37, 3) := by decide +kernel
theorem d_Bus_writeValue_15 : decode b_Bus_writeValue 15 = .ok (.iload_n 2, 1) := by decide +kernel
theorem d_Bus_writeValue_16 : decode b_Bus_writeValue 16 = .ok (.bipush 8, 2) := by decide +kernel
theorem d_Bus_writeValue_18 : decode b_Bus_writeValue 18 = .ok (.ishr, 1) := by decide +kernel
theorem d_Bus_writeValue_19 : decode b_Bus_writeValue 19 = .ok (.invokevirtual 43, 3) := by decide +kernel
theorem d_Bus_writeValue_22 : decode b_Bus_writeValue 22 = .ok (.return_, 1) := by decide +kernel
theorem d_Bus_latestTouch_0 : decode b_Bus_latestTouch 0 = .ok (.aload_n 0, 1) := by decide +kernel
theorem d_Bus_latestTouch_1 : decode b_Bus_latestTouch 1 = .ok (.getfield 13, 3) := by decide +kernel
theorem d_Bus_latestTouch_4 : decode b_Bus_latestTouch 4 = .ok (.aload_n 0, 1) := by decide +kernel
theorem d_Bus_latestTouch_5 : decode b_Bus_latestTouch 5 = .ok (.getfield 30, 3) := by decide +kernel
theorem d_Bus_latestTouch_8 : decode b_Bus_latestTouch 8 = .ok (.iconst 1, 1) := by decide +kernel
theorem d_Bus_latestTouch_9 : decode b_Bus_latestTouch 9 = .ok (.isub, 1) := by decide +kernel
theorem d_Bus_latestTouch_10 : decode b_Bus_latestTouch 10 = .ok (.iload_n 1, 1) := by decide +kernel
theorem d_Bus_latestTouch_11 : decode b_Bus_latestTouch 11 = .ok (.isub, 1) := by decide +kernel
theorem d_Bus_latestTouch_12 : decode b_Bus_latestTouch 12 = .ok (.bipush 7, 2) := by decide +kernel
theorem d_Bus_latestTouch_14 : decode b_Bus_latestTouch 14 = .ok (.iand, 1) := by decide +kernel
theorem d_Bus_latestTouch_15 : decode b_Bus_latestTouch 15 = .ok (.iaload, 1) := by decide +kernel
theorem d_Bus_latestTouch_16 : decode b_Bus_latestTouch 16 = .ok (.ireturn, 1) := by decide +kernel
