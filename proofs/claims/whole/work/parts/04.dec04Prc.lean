theorem d_Prc_init_0 : decode b_Prc_init 0 = .ok (.aload_n 0, 1) := by decide +kernel
theorem d_Prc_init_1 : decode b_Prc_init 1 = .ok (.invokespecial 1, 3) := by decide +kernel
theorem d_Prc_init_4 : decode b_Prc_init 4 = .ok (.aload_n 0, 1) := by decide +kernel
theorem d_Prc_init_5 : decode b_Prc_init 5 = .ok (.aload_n 1, 1) := by decide +kernel
theorem d_Prc_init_6 : decode b_Prc_init 6 = .ok (.putfield 7, 3) := by decide +kernel
theorem d_Prc_init_9 : decode b_Prc_init 9 = .ok (.aload_n 0, 1) := by decide +kernel
theorem d_Prc_init_10 : decode b_Prc_init 10 = .ok (.aload_n 2, 1) := by decide +kernel
theorem d_Prc_init_11 : decode b_Prc_init 11 = .ok (.putfield 13, 3) := by decide +kernel
theorem d_Prc_init_14 : decode b_Prc_init 14 = .ok (.aload_n 0, 1) := by decide +kernel
theorem d_Prc_init_15 : decode b_Prc_init 15 = .ok (.new 17, 3) := by decide +kernel
theorem d_Prc_init_18 : decode b_Prc_init 18 = .ok (.dup, 1) := by decide +kernel
theorem d_Prc_init_19 : decode b_Prc_init 19 = .ok (.aload_n 1, 1) := by decide +kernel
theorem d_Prc_init_20 : decode b_Prc_init 20 = .ok (.aload_n 2, 1) := by decide +kernel
theorem d_Prc_init_21 : decode b_Prc_init 21 = .ok (.invokespecial 19, 3) := by decide +kernel
theorem d_Prc_init_24 : decode b_Prc_init 24 = .ok (.putfield 22, 3) := by decide +kernel
theorem d_Prc_init_27 : decode b_Prc_init 27 = .ok (.aload_n 0, 1) := by decide +kernel
theorem d_Prc_init_28 : decode b_Prc_init 28 = .ok (.new 26, 3) := by decide +kernel
theorem d_Prc_init_31 : decode b_Prc_init 31 = .ok (.dup, 1) := by decide +kernel
theorem d_Prc_init_32 : decode b_Prc_init 32 = .ok (.aload_n 1, 1) := by decide +kernel
theorem d_Prc_init_33 : decode b_Prc_init 33 = .ok (.aload_n 2, 1) := by decide +kernel
theorem d_Prc_init_34 : decode b_Prc_init 34 = .ok (.invokespecial 28, 3) := by decide +kernel
theorem d_Prc_init_37 : decode b_Prc_init 37 = .ok (.putfield 29, 3) := by decide +kernel
theorem d_Prc_init_40 : decode b_Prc_init 40 = .ok (.return_, 1) := by decide +kernel
theorem d_Prc_makeStep_0 : decode b_Prc_makeStep 0 = .ok (.aload_n 0, 1) := by decide +kernel
theorem d_Prc_makeStep_1 : decode b_Prc_makeStep 1 = .ok (.dup, 1) := by decide +kernel
theorem d_Prc_makeStep_2 : decode b_Prc_makeStep 2 = .ok (.getfield 33, 3) := by decide +kernel
theorem d_Prc_makeStep_5 : decode b_Prc_makeStep 5 = .ok (.iconst 1, 1) := by decide +kernel
theorem d_Prc_makeStep_6 : decode b_Prc_makeStep 6 = .ok (.iadd, 1) := by decide +kernel
theorem d_Prc_makeStep_7 : decode b_Prc_makeStep 7 = .ok (.putfield 33, 3) := by decide +kernel
theorem d_Prc_makeStep_10 : decode b_Prc_makeStep 10 = .ok (.aload_n 0, 1) := by decide +kernel
theorem d_Prc_makeStep_11 : decode b_Prc_makeStep 11 = .ok (.getfield 37, 3) := by decide +kernel
theorem d_Prc_makeStep_14 : decode b_Prc_makeStep 14 = .ok (.ifCond .eq 16, 3) := by decide +kernel
theorem d_Prc_makeStep_17 : decode b_Prc_makeStep 17 = .ok (.aload_n 0, 1) := by decide +kernel
theorem d_Prc_makeStep_18 : decode b_Prc_makeStep 18 = .ok (.iconst 0, 1) := by decide +kernel
theorem d_Prc_makeStep_19 : decode b_Prc_makeStep 19 = .ok (.putfield 37, 3) := by decide +kernel
theorem d_Prc_makeStep_22 : decode b_Prc_makeStep 22 = .ok (.aload_n 0, 1) := by decide +kernel
theorem d_Prc_makeStep_23 : decode b_Prc_makeStep 23 = .ok (.sipush 490, 3) := by decide +kernel
theorem d_Prc_makeStep_26 : decode b_Prc_makeStep 26 = .ok (.invokevirtual 41, 3) := by decide +kernel
theorem d_Prc_makeStep_29 : decode b_Prc_makeStep 29 = .ok (.return_, 1) := by decide +kernel
theorem d_Prc_makeStep_30 : decode b_Prc_makeStep 30 = .ok (.aload_n 0, 1) := by decide +kernel
theorem d_Prc_makeStep_31 : decode b_Prc_makeStep 31 = .ok (.getfield 45, 3) := by decide +kernel
theorem d_Prc_makeStep_34 : decode b_Prc_makeStep 34 = .ok (.ifCond .eq 22, 3) := by decide +kernel
theorem d_Prc_makeStep_37 : decode b_Prc_makeStep 37 = .ok (.aload_n 0, 1) := by decide +kernel
theorem d_Prc_makeStep_38 : decode b_Prc_makeStep 38 = .ok (.getfield 13, 3) := by decide +kernel
theorem d_Prc_makeStep_41 : decode b_Prc_makeStep 41 = .ok (.iconst 4, 1) := by decide +kernel
theorem d_Prc_makeStep_42 : decode b_Prc_makeStep 42 = .ok (.invokevirtual 50, 3) := by decide +kernel
theorem d_Prc_makeStep_45 : decode b_Prc_makeStep 45 = .ok (.ifCond .ne 11, 3) := by decide +kernel
theorem d_Prc_makeStep_48 : decode b_Prc_makeStep 48 = .ok (.aload_n 0, 1) := by decide +kernel
theorem d_Prc_makeStep_49 : decode b_Prc_makeStep 49 = .ok (.sipush 494, 3) := by decide +kernel
theorem d_Prc_makeStep_52 : decode b_Prc_makeStep 52 = .ok (.invokevirtual 41, 3) := by decide +kernel
theorem d_Prc_makeStep_55 : decode b_Prc_makeStep 55 = .ok (.return_, 1) := by decide +kernel
theorem d_Prc_makeStep_56 : decode b_Prc_makeStep 56 = .ok (.aload_n 0, 1) := by decide +kernel
theorem d_Prc_makeStep_57 : decode b_Prc_makeStep 57 = .ok (.getfield 22, 3) := by decide +kernel
theorem d_Prc_makeStep_60 : decode b_Prc_makeStep 60 = .ok (.invokevirtual 54, 3) := by decide +kernel
theorem d_Prc_makeStep_63 : decode b_Prc_makeStep 63 = .ok (.istore_n 1, 1) := by decide +kernel
theorem d_Prc_makeStep_64 : decode b_Prc_makeStep 64 = .ok (.iload_n 1, 1) := by decide +kernel
theorem d_Prc_makeStep_65 : decode b_Prc_makeStep 65 = .ok (.ifCond .ne 19, 3) := by decide +kernel
theorem d_Prc_makeStep_68 : decode b_Prc_makeStep 68 = .ok (.aload_n 0, 1) := by decide +kernel
theorem d_Prc_makeStep_69 : decode b_Prc_makeStep 69 = .ok (.getfield 22, 3) := by decide +kernel
theorem d_Prc_makeStep_72 : decode b_Prc_makeStep 72 = .ok (.invokevirtual 54, 3) := by decide +kernel
theorem d_Prc_makeStep_75 : decode b_Prc_makeStep 75 = .ok (.pop, 1) := by decide +kernel
theorem d_Prc_makeStep_76 : decode b_Prc_makeStep 76 = .ok (.aload_n 0, 1) := by decide +kernel
theorem d_Prc_makeStep_77 : decode b_Prc_makeStep 77 = .ok (.sipush 486, 3) := by decide +kernel
theorem d_Prc_makeStep_80 : decode b_Prc_makeStep 80 = .ok (.invokevirtual 41, 3) := by decide +kernel
theorem d_Prc_makeStep_83 : decode b_Prc_makeStep 83 = .ok (.return_, 1) := by decide +kernel
theorem d_Prc_makeStep_84 : decode b_Prc_makeStep 84 = .ok (.aload_n 0, 1) := by decide +kernel
theorem d_Prc_makeStep_85 : decode b_Prc_makeStep 85 = .ok (.iload_n 1, 1) := by decide +kernel
theorem d_Prc_makeStep_86 : decode b_Prc_makeStep 86 = .ok (.invokevirtual 58, 3) := by decide +kernel
theorem d_Prc_makeStep_89 : decode b_Prc_makeStep 89 = .ok (.ifCond .ne 91, 3) := by decide +kernel
theorem d_Prc_makeStep_92 : decode b_Prc_makeStep 92 = .ok (.aload_n 0, 1) := by decide +kernel
theorem d_Prc_makeStep_93 : decode b_Prc_makeStep 93 = .ok (.iload_n 1, 1) := by decide +kernel
theorem d_Prc_makeStep_94 : decode b_Prc_makeStep 94 = .ok (.invokevirtual 61, 3) := by decide +kernel
theorem d_Prc_makeStep_97 : decode b_Prc_makeStep 97 = .ok (.ifCond .ne 83, 3) := by decide +kernel
theorem d_Prc_makeStep_100 : decode b_Prc_makeStep 100 = .ok (.aload_n 0, 1) := by decide +kernel
theorem d_Prc_makeStep_101 : decode b_Prc_makeStep 101 = .ok (.iload_n 1, 1) := by decide +kernel
theorem d_Prc_makeStep_102 : decode b_Prc_makeStep 102 = .ok (.invokevirtual 64, 3) := by decide +kernel
theorem d_Prc_makeStep_105 : decode b_Prc_makeStep 105 = .ok (.ifCond .ne 75, 3) := by decide +kernel
theorem d_Prc_makeStep_108 : decode b_Prc_makeStep 108 = .ok (.aload_n 0, 1) := by decide +kernel
theorem d_Prc_makeStep_109 : decode b_Prc_makeStep 109 = .ok (.iload_n 1, 1) := by decide +kernel
theorem d_Prc_makeStep_110 : decode b_Prc_makeStep 110 = .ok (.invokevirtual 67, 3) := by decide +kernel
theorem d_Prc_makeStep_113 : decode b_Prc_makeStep 113 = .ok (.ifCond .ne 67, 3) := by decide +kernel
theorem d_Prc_makeStep_116 : decode b_Prc_makeStep 116 = .ok (.aload_n 0, 1) := by decide +kernel
theorem d_Prc_makeStep_117 : decode b_Prc_makeStep 117 = .ok (.iload_n 1, 1) := by decide +kernel
theorem d_Prc_makeStep_118 : decode b_Prc_makeStep 118 = .ok (.invokevirtual 70, 3) := by decide +kernel
theorem d_Prc_makeStep_121 : decode b_Prc_makeStep 121 = .ok (.ifCond .ne 59, 3) := by decide +kernel
theorem d_Prc_makeStep_124 : decode b_Prc_makeStep 124 = .ok (.aload_n 0, 1) := by decide +kernel
theorem d_Prc_makeStep_125 : decode b_Prc_makeStep 125 = .ok (.iload_n 1, 1) := by decide +kernel
theorem d_Prc_makeStep_126 : decode b_Prc_makeStep 126 = .ok (.invokevirtual 73, 3) := by decide +kernel
theorem d_Prc_makeStep_129 : decode b_Prc_makeStep 129 = .ok (.ifCond .ne 51, 3) := by decide +kernel
theorem d_Prc_makeStep_132 : decode b_Prc_makeStep 132 = .ok (.aload_n 0, 1) := by decide +kernel
theorem d_Prc_makeStep_133 : decode b_Prc_makeStep 133 = .ok (.iload_n 1, 1) := by decide +kernel
theorem d_Prc_makeStep_134 : decode b_Prc_makeStep 134 = .ok (.invokevirtual 76, 3) := by decide +kernel
theorem d_Prc_makeStep_137 : decode b_Prc_makeStep 137 = .ok (.ifCond .ne 43, 3) := by decide +kernel
theorem d_Prc_makeStep_140 : decode b_Prc_makeStep 140 = .ok (.aload_n 0, 1) := by decide +kernel
theorem d_Prc_makeStep_141 : decode b_Prc_makeStep 141 = .ok (.iload_n 1, 1) := by decide +kernel
theorem d_Prc_makeStep_142 : decode b_Prc_makeStep 142 = .ok (.invokevirtual 79, 3) := by decide +kernel
theorem d_Prc_makeStep_145 : decode b_Prc_makeStep 145 = .ok (.ifCond .ne 35, 3) := by decide +kernel
theorem d_Prc_makeStep_148 : decode b_Prc_makeStep 148 = .ok (.aload_n 0, 1) := by decide +kernel
theorem d_Prc_makeStep_149 : decode b_Prc_makeStep 149 = .ok (.iload_n 1, 1) := by decide +kernel
theorem d_Prc_makeStep_150 : decode b_Prc_makeStep 150 = .ok (.invokevirtual 82, 3) := by decide +kernel
theorem d_Prc_makeStep_153 : decode b_Prc_makeStep 153 = .ok (.ifCond .ne 27, 3) := by decide +kernel
theorem d_Prc_makeStep_156 : decode b_Prc_makeStep 156 = .ok (.aload_n 0, 1) := by decide +kernel
theorem d_Prc_makeStep_157 : decode b_Prc_makeStep 157 = .ok (.iload_n 1, 1) := by decide +kernel
theorem d_Prc_makeStep_158 : decode b_Prc_makeStep 158 = .ok (.invokevirtual 85, 3) := by decide +kernel
theorem d_Prc_makeStep_161 : decode b_Prc_makeStep 161 = .ok (.ifCond .ne 19, 3) := by decide +kernel
theorem d_Prc_makeStep_164 : decode b_Prc_makeStep 164 = .ok (.aload_n 0, 1) := by decide +kernel
theorem d_Prc_makeStep_165 : decode b_Prc_makeStep 165 = .ok (.iload_n 1, 1) := by decide +kernel
theorem d_Prc_makeStep_166 : decode b_Prc_makeStep 166 = .ok (.invokevirtual 88, 3) := by decide +kernel
theorem d_Prc_makeStep_169 : decode b_Prc_makeStep 169 = .ok (.ifCond .ne 11, 3) := by decide +kernel
theorem d_Prc_makeStep_172 : decode b_Prc_makeStep 172 = .ok (.aload_n 0, 1) := by decide +kernel
theorem d_Prc_makeStep_173 : decode b_Prc_makeStep 173 = .ok (.iload_n 1, 1) := by decide +kernel
theorem d_Prc_makeStep_174 : decode b_Prc_makeStep 174 = .ok (.invokevirtual 91, 3) := by decide +kernel
theorem d_Prc_makeStep_177 : decode b_Prc_makeStep 177 = .ok (.ifCond .eq 7, 3) := by decide +kernel
theorem d_Prc_makeStep_180 : decode b_Prc_makeStep 180 = .ok (.iconst 1, 1) := by decide +kernel
theorem d_Prc_makeStep_181 : decode b_Prc_makeStep 181 = .ok (.goto 4, 3) := by decide +kernel
theorem d_Prc_makeStep_184 : decode b_Prc_makeStep 184 = .ok (.iconst 0, 1) := by decide +kernel
theorem d_Prc_makeStep_185 : decode b_Prc_makeStep 185 = .ok (.istore_n 2, 1) := by decide +kernel
theorem d_Prc_makeStep_186 : decode b_Prc_makeStep 186 = .ok (.aload_n 0, 1) := by decide +kernel
theorem d_Prc_makeStep_187 : decode b_Prc_makeStep 187 = .ok (.iload_n 2, 1) := by decide +kernel
theorem d_Prc_makeStep_188 : decode b_Prc_makeStep 188 = .ok (.ifCond .ne 7, 3) := by decide +kernel
theorem d_Prc_makeStep_191 : decode b_Prc_makeStep 191 = .ok (.iconst 1, 1) := by decide +kernel
theorem d_Prc_makeStep_192 : decode b_Prc_makeStep 192 = .ok (.goto 4, 3) := by decide +kernel
theorem d_Prc_makeStep_195 : decode b_Prc_makeStep 195 = .ok (.iconst 0, 1) := by decide +kernel
theorem d_Prc_makeStep_196 : decode b_Prc_makeStep 196 = .ok (.putfield 94, 3) := by decide +kernel
theorem d_Prc_makeStep_199 : decode b_Prc_makeStep 199 = .ok (.return_, 1) := by decide +kernel
theorem d_Prc_enterInterrupt_0 : decode b_Prc_enterInterrupt 0 = .ok (.aload_n 0, 1) := by decide +kernel
theorem d_Prc_enterInterrupt_1 : decode b_Prc_enterInterrupt 1 = .ok (.getfield 29, 3) := by decide +kernel
theorem d_Prc_enterInterrupt_4 : decode b_Prc_enterInterrupt 4 = .ok (.aload_n 0, 1) := by decide +kernel
theorem d_Prc_enterInterrupt_5 : decode b_Prc_enterInterrupt 5 = .ok (.getfield 13, 3) := by decide +kernel
theorem d_Prc_enterInterrupt_8 : decode b_Prc_enterInterrupt 8 = .ok (.getfield 97, 3) := by decide +kernel
theorem d_Prc_enterInterrupt_11 : decode b_Prc_enterInterrupt 11 = .ok (.invokevirtual 100, 3) := by decide +kernel
theorem d_Prc_enterInterrupt_14 : decode b_Prc_enterInterrupt 14 = .ok (.aload_n 0, 1) := by decide +kernel
theorem d_Prc_enterInterrupt_15 : decode b_Prc_enterInterrupt 15 = .ok (.getfield 29, 3) := by decide +kernel
theorem d_Prc_enterInterrupt_18 : decode b_Prc_enterInterrupt 18 = .ok (.aload_n 0, 1) := by decide +kernel
theorem d_Prc_enterInterrupt_19 : decode b_Prc_enterInterrupt 19 = .ok (.getfield 13, 3) := by decide +kernel
theorem d_Prc_enterInterrupt_22 : decode b_Prc_enterInterrupt 22 = .ok (.getfield 103, 3) := by decide +kernel
theorem d_Prc_enterInterrupt_25 : decode b_Prc_enterInterrupt 25 = .ok (.invokevirtual 106, 3) := by decide +kernel
theorem d_Prc_enterInterrupt_28 : decode b_Prc_enterInterrupt 28 = .ok (.aload_n 0, 1) := by decide +kernel
theorem d_Prc_enterInterrupt_29 : decode b_Prc_enterInterrupt 29 = .ok (.getfield 29, 3) := by decide +kernel
theorem d_Prc_enterInterrupt_32 : decode b_Prc_enterInterrupt 32 = .ok (.aload_n 0, 1) := by decide +kernel
theorem d_Prc_enterInterrupt_33 : decode b_Prc_enterInterrupt 33 = .ok (.getfield 13, 3) := by decide +kernel
theorem d_Prc_enterInterrupt_36 : decode b_Prc_enterInterrupt 36 = .ok (.getfield 109, 3) := by decide +kernel
theorem d_Prc_enterInterrupt_39 : decode b_Prc_enterInterrupt 39 = .ok (.invokevirtual 100, 3) := by decide +kernel
theorem d_Prc_enterInterrupt_42 : decode b_Prc_enterInterrupt 42 = .ok (.aload_n 0, 1) := by decide +kernel
theorem d_Prc_enterInterrupt_43 : decode b_Prc_enterInterrupt 43 = .ok (.getfield 13, 3) := by decide +kernel
theorem d_Prc_enterInterrupt_46 : decode b_Prc_enterInterrupt 46 = .ok (.iconst 4, 1) := by decide +kernel
theorem d_Prc_enterInterrupt_47 : decode b_Prc_enterInterrupt 47 = .ok (.iconst 1, 1) := by decide +kernel
theorem d_Prc_enterInterrupt_48 : decode b_Prc_enterInterrupt 48 = .ok (.invokevirtual 112, 3) := by decide +kernel
theorem d_Prc_enterInterrupt_51 : decode b_Prc_enterInterrupt 51 = .ok (.aload_n 0, 1) := by decide +kernel
theorem d_Prc_enterInterrupt_52 : decode b_Prc_enterInterrupt 52 = .ok (.getfield 13, 3) := by decide +kernel
theorem d_Prc_enterInterrupt_55 : decode b_Prc_enterInterrupt 55 = .ok (.bipush 8, 2) := by decide +kernel
theorem d_Prc_enterInterrupt_57 : decode b_Prc_enterInterrupt 57 = .ok (.iconst 0, 1) := by decide +kernel
theorem d_Prc_enterInterrupt_58 : decode b_Prc_enterInterrupt 58 = .ok (.invokevirtual 112, 3) := by decide +kernel
theorem d_Prc_enterInterrupt_61 : decode b_Prc_enterInterrupt 61 = .ok (.aload_n 0, 1) := by decide +kernel
theorem d_Prc_enterInterrupt_62 : decode b_Prc_enterInterrupt 62 = .ok (.getfield 13, 3) := by decide +kernel
theorem d_Prc_enterInterrupt_65 : decode b_Prc_enterInterrupt 65 = .ok (.iconst 0, 1) := by decide +kernel
theorem d_Prc_enterInterrupt_66 : decode b_Prc_enterInterrupt 66 = .ok (.putfield 97, 3) := by decide +kernel
theorem d_Prc_enterInterrupt_69 : decode b_Prc_enterInterrupt 69 = .ok (.aload_n 0, 1) := by decide +kernel
theorem d_Prc_enterInterrupt_70 : decode b_Prc_enterInterrupt 70 = .ok (.getfield 13, 3) := by decide +kernel
theorem d_Prc_enterInterrupt_73 : decode b_Prc_enterInterrupt 73 = .ok (.aload_n 0, 1) := by decide +kernel
theorem d_Prc_enterInterrupt_74 : decode b_Prc_enterInterrupt 74 = .ok (.getfield 7, 3) := by decide +kernel
theorem d_Prc_enterInterrupt_77 : decode b_Prc_enterInterrupt 77 = .ok (.iload_n 1, 1) := by decide +kernel
theorem d_Prc_enterInterrupt_78 : decode b_Prc_enterInterrupt 78 = .ok (.invokestatic 116, 3) := by decide +kernel
theorem d_Prc_enterInterrupt_81 : decode b_Prc_enterInterrupt 81 = .ok (.invokevirtual 122, 3) := by decide +kernel
theorem d_Prc_enterInterrupt_84 : decode b_Prc_enterInterrupt 84 = .ok (.putfield 103, 3) := by decide +kernel
theorem d_Prc_enterInterrupt_87 : decode b_Prc_enterInterrupt 87 = .ok (.return_, 1) := by decide +kernel
theorem d_Prc_useAccumulator_0 : decode b_Prc_useAccumulator 0 = .ok (.iload_n 1, 1) := by decide +kernel
theorem d_Prc_useAccumulator_1 : decode b_Prc_useAccumulator 1 = .ok (.bipush 31, 2) := by decide +kernel
theorem d_Prc_useAccumulator_3 : decode b_Prc_useAccumulator 3 = .ok (.iand, 1) := by decide +kernel
theorem d_Prc_useAccumulator_4 : decode b_Prc_useAccumulator 4 = .ok (.istore_n 2, 1) := by decide +kernel
theorem d_Prc_useAccumulator_5 : decode b_Prc_useAccumulator 5 = .ok (.iload_n 1, 1) := by decide +kernel
theorem d_Prc_useAccumulator_6 : decode b_Prc_useAccumulator 6 = .ok (.iconst 5, 1) := by decide +kernel
theorem d_Prc_useAccumulator_7 : decode b_Prc_useAccumulator 7 = .ok (.ishr, 1) := by decide +kernel
theorem d_Prc_useAccumulator_8 : decode b_Prc_useAccumulator 8 = .ok (.istore_n 3, 1) := by decide +kernel
theorem d_Prc_useAccumulator_9 : decode b_Prc_useAccumulator 9 = .ok (.iload_n 2, 1) := by decide +kernel
theorem d_Prc_useAccumulator_10 : decode b_Prc_useAccumulator 10 = .ok (.invokestatic 125, 3) := by decide +kernel
theorem d_Prc_useAccumulator_13 : decode b_Prc_useAccumulator 13 = .ok (.ifCond .eq 10, 3) := by decide +kernel
theorem d_Prc_useAccumulator_16 : decode b_Prc_useAccumulator 16 = .ok (.iload_n 1, 1) := by decide +kernel
theorem d_Prc_useAccumulator_17 : decode b_Prc_useAccumulator 17 = .ok (.sipush 137, 3) := by decide +kernel
theorem d_Prc_useAccumulator_20 : decode b_Prc_useAccumulator 20 = .ok (.if_icmp .ne 5, 3) := by decide +kernel
theorem d_Prc_useAccumulator_23 : decode b_Prc_useAccumulator 23 = .ok (.iconst 0, 1) := by decide +kernel
theorem d_Prc_useAccumulator_24 : decode b_Prc_useAccumulator 24 = .ok (.ireturn, 1) := by decide +kernel
theorem d_Prc_useAccumulator_25 : decode b_Prc_useAccumulator 25 = .ok (.aload_n 0, 1) := by decide +kernel
theorem d_Prc_useAccumulator_26 : decode b_Prc_useAccumulator 26 = .ok (.getfield 13, 3) := by decide +kernel
theorem d_Prc_useAccumulator_29 : decode b_Prc_useAccumulator 29 = .ok (.invokevirtual 128, 3) := by decide +kernel
theorem d_Prc_useAccumulator_32 : decode b_Prc_useAccumulator 32 = .ok (.istore 4, 2) := by decide +kernel
theorem d_Prc_useAccumulator_34 : decode b_Prc_useAccumulator 34 = .ok (.iload_n 3, 1) := by decide +kernel
theorem d_Prc_useAccumulator_35 : decode b_Prc_useAccumulator 35 = .ok (.iconst 4, 1) := by decide +kernel
theorem d_Prc_useAccumulator_36 : decode b_Prc_useAccumulator 36 = .ok (.if_icmp .ne 29, 3) := by decide +kernel
theorem d_Prc_useAccumulator_39 : decode b_Prc_useAccumulator 39 = .ok (.aload_n 0, 1) := by decide +kernel
theorem d_Prc_useAccumulator_40 : decode b_Prc_useAccumulator 40 = .ok (.getfield 7, 3) := by decide +kernel
theorem d_Prc_useAccumulator_43 : decode b_Prc_useAccumulator 43 = .ok (.aload_n 0, 1) := by decide +kernel
theorem d_Prc_useAccumulator_44 : decode b_Prc_useAccumulator 44 = .ok (.getfield 22, 3) := by decide +kernel
theorem d_Prc_useAccumulator_47 : decode b_Prc_useAccumulator 47 = .ok (.iload_n 2, 1) := by decide +kernel
theorem d_Prc_useAccumulator_48 : decode b_Prc_useAccumulator 48 = .ok (.invokevirtual 132, 3) := by decide +kernel
theorem d_Prc_useAccumulator_51 : decode b_Prc_useAccumulator 51 = .ok (.aload_n 0, 1) := by decide +kernel
theorem d_Prc_useAccumulator_52 : decode b_Prc_useAccumulator 52 = .ok (.getfield 13, 3) := by decide +kernel
theorem d_Prc_useAccumulator_55 : decode b_Prc_useAccumulator 55 = .ok (.getfield 135, 3) := by decide +kernel
theorem d_Prc_useAccumulator_58 : decode b_Prc_useAccumulator 58 = .ok (.iload 4, 2) := by decide +kernel
theorem d_Prc_useAccumulator_60 : decode b_Prc_useAccumulator 60 = .ok (.invokevirtual 138, 3) := by decide +kernel
theorem d_Prc_useAccumulator_63 : decode b_Prc_useAccumulator 63 = .ok (.iconst 1, 1) := by decide +kernel
theorem d_Prc_useAccumulator_64 : decode b_Prc_useAccumulator 64 = .ok (.ireturn, 1) := by decide +kernel
theorem d_Prc_useAccumulator_65 : decode b_Prc_useAccumulator 65 = .ok (.iload_n 2, 1) := by decide +kernel
theorem d_Prc_useAccumulator_66 : decode b_Prc_useAccumulator 66 = .ok (.bipush 9, 2) := by decide +kernel
theorem d_Prc_useAccumulator_68 : decode b_Prc_useAccumulator 68 = .ok (.if_icmp .ne 15, 3) := by decide +kernel
theorem d_Prc_useAccumulator_71 : decode b_Prc_useAccumulator 71 = .ok (.aload_n 0, 1) := by decide +kernel
theorem d_Prc_useAccumulator_72 : decode b_Prc_useAccumulator 72 = .ok (.getfield 22, 3) := by decide +kernel
theorem d_Prc_useAccumulator_75 : decode b_Prc_useAccumulator 75 = .ok (.iload 4, 2) := by decide +kernel
theorem d_Prc_useAccumulator_77 : decode b_Prc_useAccumulator 77 = .ok (.invokevirtual 142, 3) := by decide +kernel
theorem d_Prc_useAccumulator_80 : decode b_Prc_useAccumulator 80 = .ok (.goto 20, 3) := by decide +kernel
theorem d_Prc_useAccumulator_83 : decode b_Prc_useAccumulator 83 = .ok (.aload_n 0, 1) := by decide +kernel
theorem d_Prc_useAccumulator_84 : decode b_Prc_useAccumulator 84 = .ok (.getfield 7, 3) := by decide +kernel
theorem d_Prc_useAccumulator_87 : decode b_Prc_useAccumulator 87 = .ok (.aload_n 0, 1) := by decide +kernel
theorem d_Prc_useAccumulator_88 : decode b_Prc_useAccumulator 88 = .ok (.getfield 22, 3) := by decide +kernel
theorem d_Prc_useAccumulator_91 : decode b_Prc_useAccumulator 91 = .ok (.iload_n 2, 1) := by decide +kernel
theorem d_Prc_useAccumulator_92 : decode b_Prc_useAccumulator 92 = .ok (.invokevirtual 132, 3) := by decide +kernel
theorem d_Prc_useAccumulator_95 : decode b_Prc_useAccumulator 95 = .ok (.iload 4, 2) := by decide +kernel
theorem d_Prc_useAccumulator_97 : decode b_Prc_useAccumulator 97 = .ok (.invokevirtual 146, 3) := by decide +kernel
theorem d_Prc_useAccumulator_100 : decode b_Prc_useAccumulator 100 = .ok (.istore 5, 2) := by decide +kernel
theorem d_Prc_useAccumulator_102 : decode b_Prc_useAccumulator 102 = .ok (.iload_n 3, 1) := by decide +kernel
theorem d_Prc_useAccumulator_103 : decode b_Prc_useAccumulator 103 = .ok (.tableswitch 161 0 7 #[45, 65, 85, 105, 161, 114, 126, 144], 45) := by decide +kernel
theorem d_Prc_useAccumulator_148 : decode b_Prc_useAccumulator 148 = .ok (.aload_n 0, 1) := by decide +kernel
theorem d_Prc_useAccumulator_149 : decode b_Prc_useAccumulator 149 = .ok (.getfield 13, 3) := by decide +kernel
theorem d_Prc_useAccumulator_152 : decode b_Prc_useAccumulator 152 = .ok (.aload_n 0, 1) := by decide +kernel
theorem d_Prc_useAccumulator_153 : decode b_Prc_useAccumulator 153 = .ok (.getfield 13, 3) := by decide +kernel
theorem d_Prc_useAccumulator_156 : decode b_Prc_useAccumulator 156 = .ok (.invokevirtual 150, 3) := by decide +kernel
theorem d_Prc_useAccumulator_159 : decode b_Prc_useAccumulator 159 = .ok (.iload 5, 2) := by decide +kernel
theorem d_Prc_useAccumulator_161 : decode b_Prc_useAccumulator 161 = .ok (.ior, 1) := by decide +kernel
theorem d_Prc_useAccumulator_162 : decode b_Prc_useAccumulator 162 = .ok (.invokevirtual 153, 3) := by decide +kernel
theorem d_Prc_useAccumulator_165 : decode b_Prc_useAccumulator 165 = .ok (.goto 101, 3) := by decide +kernel
theorem d_Prc_useAccumulator_168 : decode b_Prc_useAccumulator 168 = .ok (.aload_n 0, 1) := by decide +kernel
theorem d_Prc_useAccumulator_169 : decode b_Prc_useAccumulator 169 = .ok (.getfield 13, 3) := by decide +kernel
theorem d_Prc_useAccumulator_172 : decode b_Prc_useAccumulator 172 = .ok (.aload_n 0, 1) := by decide +kernel
theorem d_Prc_useAccumulator_173 : decode b_Prc_useAccumulator 173 = .ok (.getfield 13, 3) := by decide +kernel
theorem d_Prc_useAccumulator_176 : decode b_Prc_useAccumulator 176 = .ok (.invokevirtual 150, 3) := by decide +kernel
theorem d_Prc_useAccumulator_179 : decode b_Prc_useAccumulator 179 = .ok (.iload 5, 2) := by decide +kernel
theorem d_Prc_useAccumulator_181 : decode b_Prc_useAccumulator 181 = .ok (.iand, 1) := by decide +kernel
theorem d_Prc_useAccumulator_182 : decode b_Prc_useAccumulator 182 = .ok (.invokevirtual 153, 3) := by decide +kernel
theorem d_Prc_useAccumulator_185 : decode b_Prc_useAccumulator 185 = .ok (.goto 81, 3) := by decide +kernel
theorem d_Prc_useAccumulator_188 : decode b_Prc_useAccumulator 188 = .ok (.aload_n 0, 1) := by decide +kernel
theorem d_Prc_useAccumulator_189 : decode b_Prc_useAccumulator 189 = .ok (.getfield 13, 3) := by decide +kernel
theorem d_Prc_useAccumulator_192 : decode b_Prc_useAccumulator 192 = .ok (.aload_n 0, 1) := by decide +kernel
theorem d_Prc_useAccumulator_193 : decode b_Prc_useAccumulator 193 = .ok (.getfield 13, 3) := by decide +kernel
theorem d_Prc_useAccumulator_196 : decode b_Prc_useAccumulator 196 = .ok (.invokevirtual 150, 3) := by decide +kernel
theorem d_Prc_useAccumulator_199 : decode b_Prc_useAccumulator 199 = .ok (.iload 5, 2) := by decide +kernel
theorem d_Prc_useAccumulator_201 : decode b_Prc_useAccumulator 201 = .ok (.ixor, 1) := by decide +kernel
theorem d_Prc_useAccumulator_202 : decode b_Prc_useAccumulator 202 = .ok (.invokevirtual 153, 3) := by decide +kernel
theorem d_Prc_useAccumulator_205 : decode b_Prc_useAccumulator 205 = .ok (.goto 61, 3) := by decide +kernel
theorem d_Prc_useAccumulator_208 : decode b_Prc_useAccumulator 208 = .ok (.aload_n 0, 1) := by decide +kernel
theorem d_Prc_useAccumulator_209 : decode b_Prc_useAccumulator 209 = .ok (.iload 5, 2) := by decide +kernel
theorem d_Prc_useAccumulator_211 : decode b_Prc_useAccumulator 211 = .ok (.invokevirtual 156, 3) := by decide +kernel
theorem d_Prc_useAccumulator_214 : decode b_Prc_useAccumulator 214 = .ok (.goto 52, 3) := by decide +kernel
theorem d_Prc_useAccumulator_217 : decode b_Prc_useAccumulator 217 = .ok (.aload_n 0, 1) := by decide +kernel
theorem d_Prc_useAccumulator_218 : decode b_Prc_useAccumulator 218 = .ok (.getfield 13, 3) := by decide +kernel
theorem d_Prc_useAccumulator_221 : decode b_Prc_useAccumulator 221 = .ok (.iload 5, 2) := by decide +kernel
theorem d_Prc_useAccumulator_223 : decode b_Prc_useAccumulator 223 = .ok (.invokevirtual 153, 3) := by decide +kernel
theorem d_Prc_useAccumulator_226 : decode b_Prc_useAccumulator 226 = .ok (.goto 40, 3) := by decide +kernel
theorem d_Prc_useAccumulator_229 : decode b_Prc_useAccumulator 229 = .ok (.aload_n 0, 1) := by decide +kernel
theorem d_Prc_useAccumulator_230 : decode b_Prc_useAccumulator 230 = .ok (.aload_n 0, 1) := by decide +kernel
theorem d_Prc_useAccumulator_231 : decode b_Prc_useAccumulator 231 = .ok (.getfield 13, 3) := by decide +kernel
theorem d_Prc_useAccumulator_234 : decode b_Prc_useAccumulator 234 = .ok (.invokevirtual 150, 3) := by decide +kernel
theorem d_Prc_useAccumulator_237 : decode b_Prc_useAccumulator 237 = .ok (.iload 5, 2) := by decide +kernel
theorem d_Prc_useAccumulator_239 : decode b_Prc_useAccumulator 239 = .ok (.iload 4, 2) := by decide +kernel
theorem d_Prc_useAccumulator_241 : decode b_Prc_useAccumulator 241 = .ok (.invokevirtual 159, 3) := by decide +kernel
theorem d_Prc_useAccumulator_244 : decode b_Prc_useAccumulator 244 = .ok (.goto 22, 3) := by decide +kernel
theorem d_Prc_useAccumulator_247 : decode b_Prc_useAccumulator 247 = .ok (.aload_n 0, 1) := by decide +kernel
theorem d_Prc_useAccumulator_248 : decode b_Prc_useAccumulator 248 = .ok (.iload 5, 2) := by decide +kernel
theorem d_Prc_useAccumulator_250 : decode b_Prc_useAccumulator 250 = .ok (.iconst (-1), 1) := by decide +kernel
theorem d_Prc_useAccumulator_251 : decode b_Prc_useAccumulator 251 = .ok (.ixor, 1) := by decide +kernel
theorem d_Prc_useAccumulator_252 : decode b_Prc_useAccumulator 252 = .ok (.iload 4, 2) := by decide +kernel
theorem d_Prc_useAccumulator_254 : decode b_Prc_useAccumulator 254 = .ok (.invokestatic 162, 3) := by decide +kernel
theorem d_Prc_useAccumulator_257 : decode b_Prc_useAccumulator 257 = .ok (.iand, 1) := by decide +kernel
theorem d_Prc_useAccumulator_258 : decode b_Prc_useAccumulator 258 = .ok (.invokevirtual 156, 3) := by decide +kernel
theorem d_Prc_useAccumulator_261 : decode b_Prc_useAccumulator 261 = .ok (.goto 5, 3) := by decide +kernel
theorem d_Prc_useAccumulator_264 : decode b_Prc_useAccumulator 264 = .ok (.iconst 0, 1) := by decide +kernel
theorem d_Prc_useAccumulator_265 : decode b_Prc_useAccumulator 265 = .ok (.ireturn, 1) := by decide +kernel
theorem d_Prc_useAccumulator_266 : decode b_Prc_useAccumulator 266 = .ok (.iconst 1, 1) := by decide +kernel
theorem d_Prc_useAccumulator_267 : decode b_Prc_useAccumulator 267 = .ok (.ireturn, 1) := by decide +kernel
theorem d_Prc_addToA_0 : decode b_Prc_addToA 0 = .ok (.aload_n 0, 1) := by decide +kernel
theorem d_Prc_addToA_1 : decode b_Prc_addToA 1 = .ok (.getfield 13, 3) := by decide +kernel
theorem d_Prc_addToA_4 : decode b_Prc_addToA 4 = .ok (.invokevirtual 128, 3) := by decide +kernel
theorem d_Prc_addToA_7 : decode b_Prc_addToA 7 = .ok (.istore_n 2, 1) := by decide +kernel
theorem d_Prc_addToA_8 : decode b_Prc_addToA 8 = .ok (.aload_n 0, 1) := by decide +kernel
theorem d_Prc_addToA_9 : decode b_Prc_addToA 9 = .ok (.getfield 13, 3) := by decide +kernel
theorem d_Prc_addToA_12 : decode b_Prc_addToA 12 = .ok (.invokevirtual 150, 3) := by decide +kernel
theorem d_Prc_addToA_15 : decode b_Prc_addToA 15 = .ok (.istore_n 3, 1) := by decide +kernel
theorem d_Prc_addToA_16 : decode b_Prc_addToA 16 = .ok (.iload_n 3, 1) := by decide +kernel
theorem d_Prc_addToA_17 : decode b_Prc_addToA 17 = .ok (.iload_n 1, 1) := by decide +kernel
theorem d_Prc_addToA_18 : decode b_Prc_addToA 18 = .ok (.iadd, 1) := by decide +kernel
theorem d_Prc_addToA_19 : decode b_Prc_addToA 19 = .ok (.aload_n 0, 1) := by decide +kernel
theorem d_Prc_addToA_20 : decode b_Prc_addToA 20 = .ok (.getfield 13, 3) := by decide +kernel
theorem d_Prc_addToA_23 : decode b_Prc_addToA 23 = .ok (.getfield 109, 3) := by decide +kernel
theorem d_Prc_addToA_26 : decode b_Prc_addToA 26 = .ok (.iconst 1, 1) := by decide +kernel
theorem d_Prc_addToA_27 : decode b_Prc_addToA 27 = .ok (.iand, 1) := by decide +kernel
theorem d_Prc_addToA_28 : decode b_Prc_addToA 28 = .ok (.iadd, 1) := by decide +kernel
theorem d_Prc_addToA_29 : decode b_Prc_addToA 29 = .ok (.istore 4, 2) := by decide +kernel
theorem d_Prc_addToA_31 : decode b_Prc_addToA 31 = .ok (.iload_n 3, 1) := by decide +kernel
theorem d_Prc_addToA_32 : decode b_Prc_addToA 32 = .ok (.iload_n 1, 1) := by decide +kernel
theorem d_Prc_addToA_33 : decode b_Prc_addToA 33 = .ok (.ixor, 1) := by decide +kernel
theorem d_Prc_addToA_34 : decode b_Prc_addToA 34 = .ok (.iconst (-1), 1) := by decide +kernel
theorem d_Prc_addToA_35 : decode b_Prc_addToA 35 = .ok (.ixor, 1) := by decide +kernel
theorem d_Prc_addToA_36 : decode b_Prc_addToA 36 = .ok (.iload_n 3, 1) := by decide +kernel
theorem d_Prc_addToA_37 : decode b_Prc_addToA 37 = .ok (.iload 4, 2) := by decide +kernel
theorem d_Prc_addToA_39 : decode b_Prc_addToA 39 = .ok (.ixor, 1) := by decide +kernel
theorem d_Prc_addToA_40 : decode b_Prc_addToA 40 = .ok (.iand, 1) := by decide +kernel
theorem d_Prc_addToA_41 : decode b_Prc_addToA 41 = .ok (.iload_n 2, 1) := by decide +kernel
theorem d_Prc_addToA_42 : decode b_Prc_addToA 42 = .ok (.invokestatic 165, 3) := by decide +kernel
theorem d_Prc_addToA_45 : decode b_Prc_addToA 45 = .ok (.iand, 1) := by decide +kernel
theorem d_Prc_addToA_46 : decode b_Prc_addToA 46 = .ok (.istore 5, 2) := by decide +kernel
theorem d_Prc_addToA_48 : decode b_Prc_addToA 48 = .ok (.aload_n 0, 1) := by decide +kernel
theorem d_Prc_addToA_49 : decode b_Prc_addToA 49 = .ok (.getfield 13, 3) := by decide +kernel
theorem d_Prc_addToA_52 : decode b_Prc_addToA 52 = .ok (.bipush 64, 2) := by decide +kernel
theorem d_Prc_addToA_54 : decode b_Prc_addToA 54 = .ok (.iload 5, 2) := by decide +kernel
theorem d_Prc_addToA_56 : decode b_Prc_addToA 56 = .ok (.ifCond .eq 7, 3) := by decide +kernel
theorem d_Prc_addToA_59 : decode b_Prc_addToA 59 = .ok (.iconst 1, 1) := by decide +kernel
theorem d_Prc_addToA_60 : decode b_Prc_addToA 60 = .ok (.goto 4, 3) := by decide +kernel
theorem d_Prc_addToA_63 : decode b_Prc_addToA 63 = .ok (.iconst 0, 1) := by decide +kernel
theorem d_Prc_addToA_64 : decode b_Prc_addToA 64 = .ok (.invokevirtual 112, 3) := by decide +kernel
theorem d_Prc_addToA_67 : decode b_Prc_addToA 67 = .ok (.aload_n 0, 1) := by decide +kernel
theorem d_Prc_addToA_68 : decode b_Prc_addToA 68 = .ok (.getfield 13, 3) := by decide +kernel
theorem d_Prc_addToA_71 : decode b_Prc_addToA 71 = .ok (.iconst 1, 1) := by decide +kernel
theorem d_Prc_addToA_72 : decode b_Prc_addToA 72 = .ok (.iload 4, 2) := by decide +kernel
theorem d_Prc_addToA_74 : decode b_Prc_addToA 74 = .ok (.iload_n 2, 1) := by decide +kernel
theorem d_Prc_addToA_75 : decode b_Prc_addToA 75 = .ok (.invokestatic 162, 3) := by decide +kernel
theorem d_Prc_addToA_78 : decode b_Prc_addToA 78 = .ok (.if_icmp .le 7, 3) := by decide +kernel
theorem d_Prc_addToA_81 : decode b_Prc_addToA 81 = .ok (.iconst 1, 1) := by decide +kernel
theorem d_Prc_addToA_82 : decode b_Prc_addToA 82 = .ok (.goto 4, 3) := by decide +kernel
theorem d_Prc_addToA_85 : decode b_Prc_addToA 85 = .ok (.iconst 0, 1) := by decide +kernel
theorem d_Prc_addToA_86 : decode b_Prc_addToA 86 = .ok (.invokevirtual 112, 3) := by decide +kernel
theorem d_Prc_addToA_89 : decode b_Prc_addToA 89 = .ok (.aload_n 0, 1) := by decide +kernel
theorem d_Prc_addToA_90 : decode b_Prc_addToA 90 = .ok (.getfield 13, 3) := by decide +kernel
theorem d_Prc_addToA_93 : decode b_Prc_addToA 93 = .ok (.iload 4, 2) := by decide +kernel
theorem d_Prc_addToA_95 : decode b_Prc_addToA 95 = .ok (.invokevirtual 153, 3) := by decide +kernel
theorem d_Prc_addToA_98 : decode b_Prc_addToA 98 = .ok (.return_, 1) := by decide +kernel
theorem d_Prc_compare_0 : decode b_Prc_compare 0 = .ok (.aload_n 0, 1) := by decide +kernel
theorem d_Prc_compare_1 : decode b_Prc_compare 1 = .ok (.getfield 13, 3) := by decide +kernel
theorem d_Prc_compare_4 : decode b_Prc_compare 4 = .ok (.iconst 1, 1) := by decide +kernel
theorem d_Prc_compare_5 : decode b_Prc_compare 5 = .ok (.iload_n 1, 1) := by decide +kernel
theorem d_Prc_compare_6 : decode b_Prc_compare 6 = .ok (.iload_n 2, 1) := by decide +kernel
theorem d_Prc_compare_7 : decode b_Prc_compare 7 = .ok (.if_icmp .lt 7, 3) := by decide +kernel
theorem d_Prc_compare_10 : decode b_Prc_compare 10 = .ok (.iconst 1, 1) := by decide +kernel
theorem d_Prc_compare_11 : decode b_Prc_compare 11 = .ok (.goto 4, 3) := by decide +kernel
theorem d_Prc_compare_14 : decode b_Prc_compare 14 = .ok (.iconst 0, 1) := by decide +kernel
theorem d_Prc_compare_15 : decode b_Prc_compare 15 = .ok (.invokevirtual 112, 3) := by decide +kernel
theorem d_Prc_compare_18 : decode b_Prc_compare 18 = .ok (.aload_n 0, 1) := by decide +kernel
theorem d_Prc_compare_19 : decode b_Prc_compare 19 = .ok (.getfield 13, 3) := by decide +kernel
theorem d_Prc_compare_22 : decode b_Prc_compare 22 = .ok (.iload_n 1, 1) := by decide +kernel
theorem d_Prc_compare_23 : decode b_Prc_compare 23 = .ok (.iload_n 2, 1) := by decide +kernel
theorem d_Prc_compare_24 : decode b_Prc_compare 24 = .ok (.isub, 1) := by decide +kernel
theorem d_Prc_compare_25 : decode b_Prc_compare 25 = .ok (.iload_n 3, 1) := by decide +kernel
theorem d_Prc_compare_26 : decode b_Prc_compare 26 = .ok (.invokestatic 162, 3) := by decide +kernel
theorem d_Prc_compare_29 : decode b_Prc_compare 29 = .ok (.iand, 1) := by decide +kernel
theorem d_Prc_compare_30 : decode b_Prc_compare 30 = .ok (.iload_n 3, 1) := by decide +kernel
theorem d_Prc_compare_31 : decode b_Prc_compare 31 = .ok (.invokevirtual 168, 3) := by decide +kernel
theorem d_Prc_compare_34 : decode b_Prc_compare 34 = .ok (.return_, 1) := by decide +kernel
theorem d_Prc_useIndex_0 : decode b_Prc_useIndex 0 = .ok (.aload_n 0, 1) := by decide +kernel
theorem d_Prc_useIndex_1 : decode b_Prc_useIndex 1 = .ok (.getfield 13, 3) := by decide +kernel
theorem d_Prc_useIndex_4 : decode b_Prc_useIndex 4 = .ok (.invokevirtual 171, 3) := by decide +kernel
theorem d_Prc_useIndex_7 : decode b_Prc_useIndex 7 = .ok (.istore_n 2, 1) := by decide +kernel
theorem d_Prc_useIndex_8 : decode b_Prc_useIndex 8 = .ok (.iload_n 1, 1) := by decide +kernel
theorem d_Prc_useIndex_9 : decode b_Prc_useIndex 9 = .ok (.lookupswitch 401 #[(132, 348), (134, 295), (140, 374), (142, 321), (160, 178), (162, 107), (164, 196), (166, 125), (172, 222), (174, 151), (192, 272), (224, 249)], 107) := by decide +kernel
theorem d_Prc_useIndex_116 : decode b_Prc_useIndex 116 = .ok (.aload_n 0, 1) := by decide +kernel
theorem d_Prc_useIndex_117 : decode b_Prc_useIndex 117 = .ok (.getfield 13, 3) := by decide +kernel
theorem d_Prc_useIndex_120 : decode b_Prc_useIndex 120 = .ok (.aload_n 0, 1) := by decide +kernel
theorem d_Prc_useIndex_121 : decode b_Prc_useIndex 121 = .ok (.getfield 22, 3) := by decide +kernel
theorem d_Prc_useIndex_124 : decode b_Prc_useIndex 124 = .ok (.iload_n 2, 1) := by decide +kernel
theorem d_Prc_useIndex_125 : decode b_Prc_useIndex 125 = .ok (.invokevirtual 142, 3) := by decide +kernel
theorem d_Prc_useIndex_128 : decode b_Prc_useIndex 128 = .ok (.invokevirtual 174, 3) := by decide +kernel
theorem d_Prc_useIndex_131 : decode b_Prc_useIndex 131 = .ok (.goto 281, 3) := by decide +kernel
theorem d_Prc_useIndex_134 : decode b_Prc_useIndex 134 = .ok (.aload_n 0, 1) := by decide +kernel
theorem d_Prc_useIndex_135 : decode b_Prc_useIndex 135 = .ok (.getfield 13, 3) := by decide +kernel
theorem d_Prc_useIndex_138 : decode b_Prc_useIndex 138 = .ok (.aload_n 0, 1) := by decide +kernel
theorem d_Prc_useIndex_139 : decode b_Prc_useIndex 139 = .ok (.getfield 7, 3) := by decide +kernel
theorem d_Prc_useIndex_142 : decode b_Prc_useIndex 142 = .ok (.aload_n 0, 1) := by decide +kernel
theorem d_Prc_useIndex_143 : decode b_Prc_useIndex 143 = .ok (.getfield 22, 3) := by decide +kernel
theorem d_Prc_useIndex_146 : decode b_Prc_useIndex 146 = .ok (.iconst 5, 1) := by decide +kernel
theorem d_Prc_useIndex_147 : decode b_Prc_useIndex 147 = .ok (.invokevirtual 132, 3) := by decide +kernel
theorem d_Prc_useIndex_150 : decode b_Prc_useIndex 150 = .ok (.iload_n 2, 1) := by decide +kernel
theorem d_Prc_useIndex_151 : decode b_Prc_useIndex 151 = .ok (.invokevirtual 146, 3) := by decide +kernel
theorem d_Prc_useIndex_154 : decode b_Prc_useIndex 154 = .ok (.invokevirtual 174, 3) := by decide +kernel
theorem d_Prc_useIndex_157 : decode b_Prc_useIndex 157 = .ok (.goto 255, 3) := by decide +kernel
theorem d_Prc_useIndex_160 : decode b_Prc_useIndex 160 = .ok (.aload_n 0, 1) := by decide +kernel
theorem d_Prc_useIndex_161 : decode b_Prc_useIndex 161 = .ok (.getfield 13, 3) := by decide +kernel
theorem d_Prc_useIndex_164 : decode b_Prc_useIndex 164 = .ok (.aload_n 0, 1) := by decide +kernel
theorem d_Prc_useIndex_165 : decode b_Prc_useIndex 165 = .ok (.getfield 7, 3) := by decide +kernel
theorem d_Prc_useIndex_168 : decode b_Prc_useIndex 168 = .ok (.aload_n 0, 1) := by decide +kernel
theorem d_Prc_useIndex_169 : decode b_Prc_useIndex 169 = .ok (.getfield 22, 3) := by decide +kernel
theorem d_Prc_useIndex_172 : decode b_Prc_useIndex 172 = .ok (.bipush 13, 2) := by decide +kernel
theorem d_Prc_useIndex_174 : decode b_Prc_useIndex 174 = .ok (.invokevirtual 132, 3) := by decide +kernel
theorem d_Prc_useIndex_177 : decode b_Prc_useIndex 177 = .ok (.iload_n 2, 1) := by decide +kernel
theorem d_Prc_useIndex_178 : decode b_Prc_useIndex 178 = .ok (.invokevirtual 146, 3) := by decide +kernel
theorem d_Prc_useIndex_181 : decode b_Prc_useIndex 181 = .ok (.invokevirtual 174, 3) := by decide +kernel
theorem d_Prc_useIndex_184 : decode b_Prc_useIndex 184 = .ok (.goto 228, 3) := by decide +kernel
theorem d_Prc_useIndex_187 : decode b_Prc_useIndex 187 = .ok (.aload_n 0, 1) := by decide +kernel
theorem d_Prc_useIndex_188 : decode b_Prc_useIndex 188 = .ok (.getfield 13, 3) := by decide +kernel
theorem d_Prc_useIndex_191 : decode b_Prc_useIndex 191 = .ok (.aload_n 0, 1) := by decide +kernel
theorem d_Prc_useIndex_192 : decode b_Prc_useIndex 192 = .ok (.getfield 22, 3) := by decide +kernel
theorem d_Prc_useIndex_195 : decode b_Prc_useIndex 195 = .ok (.iload_n 2, 1) := by decide +kernel
theorem d_Prc_useIndex_196 : decode b_Prc_useIndex 196 = .ok (.invokevirtual 142, 3) := by decide +kernel
theorem d_Prc_useIndex_199 : decode b_Prc_useIndex 199 = .ok (.invokevirtual 177, 3) := by decide +kernel
theorem d_Prc_useIndex_202 : decode b_Prc_useIndex 202 = .ok (.goto 210, 3) := by decide +kernel
theorem d_Prc_useIndex_205 : decode b_Prc_useIndex 205 = .ok (.aload_n 0, 1) := by decide +kernel
theorem d_Prc_useIndex_206 : decode b_Prc_useIndex 206 = .ok (.getfield 13, 3) := by decide +kernel
theorem d_Prc_useIndex_209 : decode b_Prc_useIndex 209 = .ok (.aload_n 0, 1) := by decide +kernel
theorem d_Prc_useIndex_210 : decode b_Prc_useIndex 210 = .ok (.getfield 7, 3) := by decide +kernel
theorem d_Prc_useIndex_213 : decode b_Prc_useIndex 213 = .ok (.aload_n 0, 1) := by decide +kernel
theorem d_Prc_useIndex_214 : decode b_Prc_useIndex 214 = .ok (.getfield 22, 3) := by decide +kernel
theorem d_Prc_useIndex_217 : decode b_Prc_useIndex 217 = .ok (.iconst 5, 1) := by decide +kernel
theorem d_Prc_useIndex_218 : decode b_Prc_useIndex 218 = .ok (.invokevirtual 132, 3) := by decide +kernel
theorem d_Prc_useIndex_221 : decode b_Prc_useIndex 221 = .ok (.iload_n 2, 1) := by decide +kernel
theorem d_Prc_useIndex_222 : decode b_Prc_useIndex 222 = .ok (.invokevirtual 146, 3) := by decide +kernel
theorem d_Prc_useIndex_225 : decode b_Prc_useIndex 225 = .ok (.invokevirtual 177, 3) := by decide +kernel
theorem d_Prc_useIndex_228 : decode b_Prc_useIndex 228 = .ok (.goto 184, 3) := by decide +kernel
theorem d_Prc_useIndex_231 : decode b_Prc_useIndex 231 = .ok (.aload_n 0, 1) := by decide +kernel
theorem d_Prc_useIndex_232 : decode b_Prc_useIndex 232 = .ok (.getfield 13, 3) := by decide +kernel
theorem d_Prc_useIndex_235 : decode b_Prc_useIndex 235 = .ok (.aload_n 0, 1) := by decide +kernel
theorem d_Prc_useIndex_236 : decode b_Prc_useIndex 236 = .ok (.getfield 7, 3) := by decide +kernel
theorem d_Prc_useIndex_239 : decode b_Prc_useIndex 239 = .ok (.aload_n 0, 1) := by decide +kernel
theorem d_Prc_useIndex_240 : decode b_Prc_useIndex 240 = .ok (.getfield 22, 3) := by decide +kernel
theorem d_Prc_useIndex_243 : decode b_Prc_useIndex 243 = .ok (.bipush 13, 2) := by decide +kernel
theorem d_Prc_useIndex_245 : decode b_Prc_useIndex 245 = .ok (.invokevirtual 132, 3) := by decide +kernel
theorem d_Prc_useIndex_248 : decode b_Prc_useIndex 248 = .ok (.iload_n 2, 1) := by decide +kernel
theorem d_Prc_useIndex_249 : decode b_Prc_useIndex 249 = .ok (.invokevirtual 146, 3) := by decide +kernel
theorem d_Prc_useIndex_252 : decode b_Prc_useIndex 252 = .ok (.invokevirtual 177, 3) := by decide +kernel
theorem d_Prc_useIndex_255 : decode b_Prc_useIndex 255 = .ok (.goto 157, 3) := by decide +kernel
theorem d_Prc_useIndex_258 : decode b_Prc_useIndex 258 = .ok (.aload_n 0, 1) := by decide +kernel
theorem d_Prc_useIndex_259 : decode b_Prc_useIndex 259 = .ok (.aload_n 0, 1) := by decide +kernel
theorem d_Prc_useIndex_260 : decode b_Prc_useIndex 260 = .ok (.getfield 13, 3) := by decide +kernel
theorem d_Prc_useIndex_263 : decode b_Prc_useIndex 263 = .ok (.getfield 180, 3) := by decide +kernel
theorem d_Prc_useIndex_266 : decode b_Prc_useIndex 266 = .ok (.aload_n 0, 1) := by decide +kernel
theorem d_Prc_useIndex_267 : decode b_Prc_useIndex 267 = .ok (.getfield 22, 3) := by decide +kernel
theorem d_Prc_useIndex_270 : decode b_Prc_useIndex 270 = .ok (.iload_n 2, 1) := by decide +kernel
theorem d_Prc_useIndex_271 : decode b_Prc_useIndex 271 = .ok (.invokevirtual 142, 3) := by decide +kernel
theorem d_Prc_useIndex_274 : decode b_Prc_useIndex 274 = .ok (.iload_n 2, 1) := by decide +kernel
theorem d_Prc_useIndex_275 : decode b_Prc_useIndex 275 = .ok (.invokevirtual 159, 3) := by decide +kernel
theorem d_Prc_useIndex_278 : decode b_Prc_useIndex 278 = .ok (.goto 134, 3) := by decide +kernel
theorem d_Prc_useIndex_281 : decode b_Prc_useIndex 281 = .ok (.aload_n 0, 1) := by decide +kernel
theorem d_Prc_useIndex_282 : decode b_Prc_useIndex 282 = .ok (.aload_n 0, 1) := by decide +kernel
theorem d_Prc_useIndex_283 : decode b_Prc_useIndex 283 = .ok (.getfield 13, 3) := by decide +kernel
theorem d_Prc_useIndex_286 : decode b_Prc_useIndex 286 = .ok (.getfield 183, 3) := by decide +kernel
theorem d_Prc_useIndex_289 : decode b_Prc_useIndex 289 = .ok (.aload_n 0, 1) := by decide +kernel
theorem d_Prc_useIndex_290 : decode b_Prc_useIndex 290 = .ok (.getfield 22, 3) := by decide +kernel
theorem d_Prc_useIndex_293 : decode b_Prc_useIndex 293 = .ok (.iload_n 2, 1) := by decide +kernel
theorem d_Prc_useIndex_294 : decode b_Prc_useIndex 294 = .ok (.invokevirtual 142, 3) := by decide +kernel
theorem d_Prc_useIndex_297 : decode b_Prc_useIndex 297 = .ok (.iload_n 2, 1) := by decide +kernel
theorem d_Prc_useIndex_298 : decode b_Prc_useIndex 298 = .ok (.invokevirtual 159, 3) := by decide +kernel
theorem d_Prc_useIndex_301 : decode b_Prc_useIndex 301 = .ok (.goto 111, 3) := by decide +kernel
theorem d_Prc_useIndex_304 : decode b_Prc_useIndex 304 = .ok (.aload_n 0, 1) := by decide +kernel
theorem d_Prc_useIndex_305 : decode b_Prc_useIndex 305 = .ok (.getfield 7, 3) := by decide +kernel
theorem d_Prc_useIndex_308 : decode b_Prc_useIndex 308 = .ok (.aload_n 0, 1) := by decide +kernel
theorem d_Prc_useIndex_309 : decode b_Prc_useIndex 309 = .ok (.getfield 22, 3) := by decide +kernel
theorem d_Prc_useIndex_312 : decode b_Prc_useIndex 312 = .ok (.iconst 5, 1) := by decide +kernel
theorem d_Prc_useIndex_313 : decode b_Prc_useIndex 313 = .ok (.invokevirtual 132, 3) := by decide +kernel
theorem d_Prc_useIndex_316 : decode b_Prc_useIndex 316 = .ok (.aload_n 0, 1) := by decide +kernel
theorem d_Prc_useIndex_317 : decode b_Prc_useIndex 317 = .ok (.getfield 13, 3) := by decide +kernel
theorem d_Prc_useIndex_320 : decode b_Prc_useIndex 320 = .ok (.getfield 180, 3) := by decide +kernel
theorem d_Prc_useIndex_323 : decode b_Prc_useIndex 323 = .ok (.iload_n 2, 1) := by decide +kernel
theorem d_Prc_useIndex_324 : decode b_Prc_useIndex 324 = .ok (.invokevirtual 138, 3) := by decide +kernel
theorem d_Prc_useIndex_327 : decode b_Prc_useIndex 327 = .ok (.goto 85, 3) := by decide +kernel
theorem d_Prc_useIndex_330 : decode b_Prc_useIndex 330 = .ok (.aload_n 0, 1) := by decide +kernel
theorem d_Prc_useIndex_331 : decode b_Prc_useIndex 331 = .ok (.getfield 7, 3) := by decide +kernel
theorem d_Prc_useIndex_334 : decode b_Prc_useIndex 334 = .ok (.aload_n 0, 1) := by decide +kernel
theorem d_Prc_useIndex_335 : decode b_Prc_useIndex 335 = .ok (.getfield 22, 3) := by decide +kernel
theorem d_Prc_useIndex_338 : decode b_Prc_useIndex 338 = .ok (.bipush 13, 2) := by decide +kernel
theorem d_Prc_useIndex_340 : decode b_Prc_useIndex 340 = .ok (.invokevirtual 132, 3) := by decide +kernel
theorem d_Prc_useIndex_343 : decode b_Prc_useIndex 343 = .ok (.aload_n 0, 1) := by decide +kernel
theorem d_Prc_useIndex_344 : decode b_Prc_useIndex 344 = .ok (.getfield 13, 3) := by decide +kernel
theorem d_Prc_useIndex_347 : decode b_Prc_useIndex 347 = .ok (.getfield 180, 3) := by decide +kernel
theorem d_Prc_useIndex_350 : decode b_Prc_useIndex 350 = .ok (.iload_n 2, 1) := by decide +kernel
theorem d_Prc_useIndex_351 : decode b_Prc_useIndex 351 = .ok (.invokevirtual 138, 3) := by decide +kernel
theorem d_Prc_useIndex_354 : decode b_Prc_useIndex 354 = .ok (.goto 58, 3) := by decide +kernel
theorem d_Prc_useIndex_357 : decode b_Prc_useIndex 357 = .ok (.aload_n 0, 1) := by decide +kernel
theorem d_Prc_useIndex_358 : decode b_Prc_useIndex 358 = .ok (.getfield 7, 3) := by decide +kernel
theorem d_Prc_useIndex_361 : decode b_Prc_useIndex 361 = .ok (.aload_n 0, 1) := by decide +kernel
theorem d_Prc_useIndex_362 : decode b_Prc_useIndex 362 = .ok (.getfield 22, 3) := by decide +kernel
theorem d_Prc_useIndex_365 : decode b_Prc_useIndex 365 = .ok (.iconst 5, 1) := by decide +kernel
theorem d_Prc_useIndex_366 : decode b_Prc_useIndex 366 = .ok (.invokevirtual 132, 3) := by decide +kernel
theorem d_Prc_useIndex_369 : decode b_Prc_useIndex 369 = .ok (.aload_n 0, 1) := by decide +kernel
theorem d_Prc_useIndex_370 : decode b_Prc_useIndex 370 = .ok (.getfield 13, 3) := by decide +kernel
theorem d_Prc_useIndex_373 : decode b_Prc_useIndex 373 = .ok (.getfield 183, 3) := by decide +kernel
theorem d_Prc_useIndex_376 : decode b_Prc_useIndex 376 = .ok (.iload_n 2, 1) := by decide +kernel
theorem d_Prc_useIndex_377 : decode b_Prc_useIndex 377 = .ok (.invokevirtual 138, 3) := by decide +kernel
theorem d_Prc_useIndex_380 : decode b_Prc_useIndex 380 = .ok (.goto 32, 3) := by decide +kernel
theorem d_Prc_useIndex_383 : decode b_Prc_useIndex 383 = .ok (.aload_n 0, 1) := by decide +kernel
theorem d_Prc_useIndex_384 : decode b_Prc_useIndex 384 = .ok (.getfield 7, 3) := by decide +kernel
theorem d_Prc_useIndex_387 : decode b_Prc_useIndex 387 = .ok (.aload_n 0, 1) := by decide +kernel
theorem d_Prc_useIndex_388 : decode b_Prc_useIndex 388 = .ok (.getfield 22, 3) := by decide +kernel
theorem d_Prc_useIndex_391 : decode b_Prc_useIndex 391 = .ok (.bipush 13, 2) := by decide +kernel
theorem d_Prc_useIndex_393 : decode b_Prc_useIndex 393 = .ok (.invokevirtual 132, 3) := by decide +kernel
theorem d_Prc_useIndex_396 : decode b_Prc_useIndex 396 = .ok (.aload_n 0, 1) := by decide +kernel
theorem d_Prc_useIndex_397 : decode b_Prc_useIndex 397 = .ok (.getfield 13, 3) := by decide +kernel
theorem d_Prc_useIndex_400 : decode b_Prc_useIndex 400 = .ok (.getfield 183, 3) := by decide +kernel
theorem d_Prc_useIndex_403 : decode b_Prc_useIndex 403 = .ok (.iload_n 2, 1) := by decide +kernel
theorem d_Prc_useIndex_404 : decode b_Prc_useIndex 404 = .ok (.invokevirtual 138, 3) := by decide +kernel
theorem d_Prc_useIndex_407 : decode b_Prc_useIndex 407 = .ok (.goto 5, 3) := by decide +kernel
theorem d_Prc_useIndex_410 : decode b_Prc_useIndex 410 = .ok (.iconst 0, 1) := by decide +kernel
theorem d_Prc_useIndex_411 : decode b_Prc_useIndex 411 = .ok (.ireturn, 1) := by decide +kernel
theorem d_Prc_useIndex_412 : decode b_Prc_useIndex 412 = .ok (.iconst 1, 1) := by decide +kernel
theorem d_Prc_useIndex_413 : decode b_Prc_useIndex 413 = .ok (.ireturn, 1) := by decide +kernel
theorem d_Prc_storeZero_0 : decode b_Prc_storeZero 0 = .ok (.iload_n 1, 1) := by decide +kernel
theorem d_Prc_storeZero_1 : decode b_Prc_storeZero 1 = .ok (.lookupswitch 80 #[(100, 27), (156, 53)], 27) := by decide +kernel
theorem d_Prc_storeZero_28 : decode b_Prc_storeZero 28 = .ok (.aload_n 0, 1) := by decide +kernel
theorem d_Prc_storeZero_29 : decode b_Prc_storeZero 29 = .ok (.getfield 7, 3) := by decide +kernel
theorem d_Prc_storeZero_32 : decode b_Prc_storeZero 32 = .ok (.aload_n 0, 1) := by decide +kernel
theorem d_Prc_storeZero_33 : decode b_Prc_storeZero 33 = .ok (.getfield 22, 3) := by decide +kernel
theorem d_Prc_storeZero_36 : decode b_Prc_storeZero 36 = .ok (.iconst 5, 1) := by decide +kernel
theorem d_Prc_storeZero_37 : decode b_Prc_storeZero 37 = .ok (.invokevirtual 132, 3) := by decide +kernel
theorem d_Prc_storeZero_40 : decode b_Prc_storeZero 40 = .ok (.iconst 0, 1) := by decide +kernel
theorem d_Prc_storeZero_41 : decode b_Prc_storeZero 41 = .ok (.aload_n 0, 1) := by decide +kernel
theorem d_Prc_storeZero_42 : decode b_Prc_storeZero 42 = .ok (.getfield 13, 3) := by decide +kernel
theorem d_Prc_storeZero_45 : decode b_Prc_storeZero 45 = .ok (.invokevirtual 128, 3) := by decide +kernel
theorem d_Prc_storeZero_48 : decode b_Prc_storeZero 48 = .ok (.invokevirtual 138, 3) := by decide +kernel
theorem d_Prc_storeZero_51 : decode b_Prc_storeZero 51 = .ok (.goto 32, 3) := by decide +kernel
theorem d_Prc_storeZero_54 : decode b_Prc_storeZero 54 = .ok (.aload_n 0, 1) := by decide +kernel
theorem d_Prc_storeZero_55 : decode b_Prc_storeZero 55 = .ok (.getfield 7, 3) := by decide +kernel
theorem d_Prc_storeZero_58 : decode b_Prc_storeZero 58 = .ok (.aload_n 0, 1) := by decide +kernel
theorem d_Prc_storeZero_59 : decode b_Prc_storeZero 59 = .ok (.getfield 22, 3) := by decide +kernel
theorem d_Prc_storeZero_62 : decode b_Prc_storeZero 62 = .ok (.bipush 13, 2) := by decide +kernel
theorem d_Prc_storeZero_64 : decode b_Prc_storeZero 64 = .ok (.invokevirtual 132, 3) := by decide +kernel
theorem d_Prc_storeZero_67 : decode b_Prc_storeZero 67 = .ok (.iconst 0, 1) := by decide +kernel
theorem d_Prc_storeZero_68 : decode b_Prc_storeZero 68 = .ok (.aload_n 0, 1) := by decide +kernel
theorem d_Prc_storeZero_69 : decode b_Prc_storeZero 69 = .ok (.getfield 13, 3) := by decide +kernel
theorem d_Prc_storeZero_72 : decode b_Prc_storeZero 72 = .ok (.invokevirtual 128, 3) := by decide +kernel
theorem d_Prc_storeZero_75 : decode b_Prc_storeZero 75 = .ok (.invokevirtual 138, 3) := by decide +kernel
theorem d_Prc_storeZero_78 : decode b_Prc_storeZero 78 = .ok (.goto 5, 3) := by decide +kernel
theorem d_Prc_storeZero_81 : decode b_Prc_storeZero 81 = .ok (.iconst 0, 1) := by decide +kernel
theorem d_Prc_storeZero_82 : decode b_Prc_storeZero 82 = .ok (.ireturn, 1) := by decide +kernel
theorem d_Prc_storeZero_83 : decode b_Prc_storeZero 83 = .ok (.iconst 1, 1) := by decide +kernel
theorem d_Prc_storeZero_84 : decode b_Prc_storeZero 84 = .ok (.ireturn, 1) := by decide +kernel
theorem d_Prc_changeMemory_0 : decode b_Prc_changeMemory 0 = .ok (.iload_n 1, 1) := by decide +kernel
theorem d_Prc_changeMemory_1 : decode b_Prc_changeMemory 1 = .ok (.lookupswitch 86 #[(6, 75), (38, 75), (70, 75), (102, 75), (198, 75), (206, 80), (230, 75), (238, 80)], 75) := by decide +kernel
theorem d_Prc_changeMemory_76 : decode b_Prc_changeMemory 76 = .ok (.iconst 5, 1) := by decide +kernel
theorem d_Prc_changeMemory_77 : decode b_Prc_changeMemory 77 = .ok (.istore_n 2, 1) := by decide +kernel
theorem d_Prc_changeMemory_78 : decode b_Prc_changeMemory 78 = .ok (.goto 11, 3) := by decide +kernel
theorem d_Prc_changeMemory_81 : decode b_Prc_changeMemory 81 = .ok (.bipush 13, 2) := by decide +kernel
theorem d_Prc_changeMemory_83 : decode b_Prc_changeMemory 83 = .ok (.istore_n 2, 1) := by decide +kernel
theorem d_Prc_changeMemory_84 : decode b_Prc_changeMemory 84 = .ok (.goto 5, 3) := by decide +kernel
theorem d_Prc_changeMemory_87 : decode b_Prc_changeMemory 87 = .ok (.iconst 0, 1) := by decide +kernel
theorem d_Prc_changeMemory_88 : decode b_Prc_changeMemory 88 = .ok (.ireturn, 1) := by decide +kernel
theorem d_Prc_changeMemory_89 : decode b_Prc_changeMemory 89 = .ok (.aload_n 0, 1) := by decide +kernel
theorem d_Prc_changeMemory_90 : decode b_Prc_changeMemory 90 = .ok (.getfield 13, 3) := by decide +kernel
theorem d_Prc_changeMemory_93 : decode b_Prc_changeMemory 93 = .ok (.invokevirtual 128, 3) := by decide +kernel
theorem d_Prc_changeMemory_96 : decode b_Prc_changeMemory 96 = .ok (.istore_n 3, 1) := by decide +kernel
theorem d_Prc_changeMemory_97 : decode b_Prc_changeMemory 97 = .ok (.aload_n 0, 1) := by decide +kernel
theorem d_Prc_changeMemory_98 : decode b_Prc_changeMemory 98 = .ok (.getfield 22, 3) := by decide +kernel
theorem d_Prc_changeMemory_101 : decode b_Prc_changeMemory 101 = .ok (.iload_n 2, 1) := by decide +kernel
theorem d_Prc_changeMemory_102 : decode b_Prc_changeMemory 102 = .ok (.invokevirtual 132, 3) := by decide +kernel
theorem d_Prc_changeMemory_105 : decode b_Prc_changeMemory 105 = .ok (.istore 4, 2) := by decide +kernel
theorem d_Prc_changeMemory_107 : decode b_Prc_changeMemory 107 = .ok (.aload_n 0, 1) := by decide +kernel
theorem d_Prc_changeMemory_108 : decode b_Prc_changeMemory 108 = .ok (.iload_n 1, 1) := by decide +kernel
theorem d_Prc_changeMemory_109 : decode b_Prc_changeMemory 109 = .ok (.iconst 5, 1) := by decide +kernel
theorem d_Prc_changeMemory_110 : decode b_Prc_changeMemory 110 = .ok (.ishr, 1) := by decide +kernel
theorem d_Prc_changeMemory_111 : decode b_Prc_changeMemory 111 = .ok (.aload_n 0, 1) := by decide +kernel
theorem d_Prc_changeMemory_112 : decode b_Prc_changeMemory 112 = .ok (.getfield 7, 3) := by decide +kernel
theorem d_Prc_changeMemory_115 : decode b_Prc_changeMemory 115 = .ok (.iload 4, 2) := by decide +kernel
theorem d_Prc_changeMemory_117 : decode b_Prc_changeMemory 117 = .ok (.iload_n 3, 1) := by decide +kernel
theorem d_Prc_changeMemory_118 : decode b_Prc_changeMemory 118 = .ok (.invokevirtual 146, 3) := by decide +kernel
theorem d_Prc_changeMemory_121 : decode b_Prc_changeMemory 121 = .ok (.iload_n 3, 1) := by decide +kernel
theorem d_Prc_changeMemory_122 : decode b_Prc_changeMemory 122 = .ok (.invokevirtual 186, 3) := by decide +kernel
theorem d_Prc_changeMemory_125 : decode b_Prc_changeMemory 125 = .ok (.istore 5, 2) := by decide +kernel
theorem d_Prc_changeMemory_127 : decode b_Prc_changeMemory 127 = .ok (.aload_n 0, 1) := by decide +kernel
theorem d_Prc_changeMemory_128 : decode b_Prc_changeMemory 128 = .ok (.getfield 13, 3) := by decide +kernel
theorem d_Prc_changeMemory_131 : decode b_Prc_changeMemory 131 = .ok (.iload 5, 2) := by decide +kernel
theorem d_Prc_changeMemory_133 : decode b_Prc_changeMemory 133 = .ok (.iload_n 3, 1) := by decide +kernel
theorem d_Prc_changeMemory_134 : decode b_Prc_changeMemory 134 = .ok (.invokevirtual 168, 3) := by decide +kernel
theorem d_Prc_changeMemory_137 : decode b_Prc_changeMemory 137 = .ok (.aload_n 0, 1) := by decide +kernel
theorem d_Prc_changeMemory_138 : decode b_Prc_changeMemory 138 = .ok (.getfield 7, 3) := by decide +kernel
theorem d_Prc_changeMemory_141 : decode b_Prc_changeMemory 141 = .ok (.iload 4, 2) := by decide +kernel
theorem d_Prc_changeMemory_143 : decode b_Prc_changeMemory 143 = .ok (.iload 5, 2) := by decide +kernel
theorem d_Prc_changeMemory_145 : decode b_Prc_changeMemory 145 = .ok (.iload_n 3, 1) := by decide +kernel
theorem d_Prc_changeMemory_146 : decode b_Prc_changeMemory 146 = .ok (.invokevirtual 138, 3) := by decide +kernel
theorem d_Prc_changeMemory_149 : decode b_Prc_changeMemory 149 = .ok (.iconst 1, 1) := by decide +kernel
theorem d_Prc_changeMemory_150 : decode b_Prc_changeMemory 150 = .ok (.ireturn, 1) := by decide +kernel
theorem d_Prc_changeRegister_0 : decode b_Prc_changeRegister 0 = .ok (.aload_n 0, 1) := by decide +kernel
theorem d_Prc_changeRegister_1 : decode b_Prc_changeRegister 1 = .ok (.getfield 13, 3) := by decide +kernel
theorem d_Prc_changeRegister_4 : decode b_Prc_changeRegister 4 = .ok (.invokevirtual 128, 3) := by decide +kernel
theorem d_Prc_changeRegister_7 : decode b_Prc_changeRegister 7 = .ok (.istore_n 2, 1) := by decide +kernel
theorem d_Prc_changeRegister_8 : decode b_Prc_changeRegister 8 = .ok (.iload_n 1, 1) := by decide +kernel
theorem d_Prc_changeRegister_9 : decode b_Prc_changeRegister 9 = .ok (.lookupswitch 240 #[(10, 91), (26, 116), (42, 91), (58, 140), (74, 91), (106, 91), (136, 221), (200, 183), (202, 202), (232, 164)], 91) := by decide +kernel
theorem d_Prc_changeRegister_100 : decode b_Prc_changeRegister 100 = .ok (.aload_n 0, 1) := by decide +kernel
theorem d_Prc_changeRegister_101 : decode b_Prc_changeRegister 101 = .ok (.getfield 13, 3) := by decide +kernel
theorem d_Prc_changeRegister_104 : decode b_Prc_changeRegister 104 = .ok (.aload_n 0, 1) := by decide +kernel
theorem d_Prc_changeRegister_105 : decode b_Prc_changeRegister 105 = .ok (.iload_n 1, 1) := by decide +kernel
theorem d_Prc_changeRegister_106 : decode b_Prc_changeRegister 106 = .ok (.iconst 5, 1) := by decide +kernel
theorem d_Prc_changeRegister_107 : decode b_Prc_changeRegister 107 = .ok (.ishr, 1) := by decide +kernel
theorem d_Prc_changeRegister_108 : decode b_Prc_changeRegister 108 = .ok (.aload_n 0, 1) := by decide +kernel
theorem d_Prc_changeRegister_109 : decode b_Prc_changeRegister 109 = .ok (.getfield 13, 3) := by decide +kernel
theorem d_Prc_changeRegister_112 : decode b_Prc_changeRegister 112 = .ok (.invokevirtual 150, 3) := by decide +kernel
theorem d_Prc_changeRegister_115 : decode b_Prc_changeRegister 115 = .ok (.iload_n 2, 1) := by decide +kernel
theorem d_Prc_changeRegister_116 : decode b_Prc_changeRegister 116 = .ok (.invokevirtual 186, 3) := by decide +kernel
theorem d_Prc_changeRegister_119 : decode b_Prc_changeRegister 119 = .ok (.invokevirtual 153, 3) := by decide +kernel
theorem d_Prc_changeRegister_122 : decode b_Prc_changeRegister 122 = .ok (.goto 129, 3) := by decide +kernel
theorem d_Prc_changeRegister_125 : decode b_Prc_changeRegister 125 = .ok (.aload_n 0, 1) := by decide +kernel
theorem d_Prc_changeRegister_126 : decode b_Prc_changeRegister 126 = .ok (.getfield 13, 3) := by decide +kernel
theorem d_Prc_changeRegister_129 : decode b_Prc_changeRegister 129 = .ok (.aload_n 0, 1) := by decide +kernel
theorem d_Prc_changeRegister_130 : decode b_Prc_changeRegister 130 = .ok (.bipush 7, 2) := by decide +kernel
theorem d_Prc_changeRegister_132 : decode b_Prc_changeRegister 132 = .ok (.aload_n 0, 1) := by decide +kernel
theorem d_Prc_changeRegister_133 : decode b_Prc_changeRegister 133 = .ok (.getfield 13, 3) := by decide +kernel
theorem d_Prc_changeRegister_136 : decode b_Prc_changeRegister 136 = .ok (.invokevirtual 150, 3) := by decide +kernel
theorem d_Prc_changeRegister_139 : decode b_Prc_changeRegister 139 = .ok (.iload_n 2, 1) := by decide +kernel
theorem d_Prc_changeRegister_140 : decode b_Prc_changeRegister 140 = .ok (.invokevirtual 186, 3) := by decide +kernel
theorem d_Prc_changeRegister_143 : decode b_Prc_changeRegister 143 = .ok (.invokevirtual 153, 3) := by decide +kernel
theorem d_Prc_changeRegister_146 : decode b_Prc_changeRegister 146 = .ok (.goto 105, 3) := by decide +kernel
theorem d_Prc_changeRegister_149 : decode b_Prc_changeRegister 149 = .ok (.aload_n 0, 1) := by decide +kernel
theorem d_Prc_changeRegister_150 : decode b_Prc_changeRegister 150 = .ok (.getfield 13, 3) := by decide +kernel
theorem d_Prc_changeRegister_153 : decode b_Prc_changeRegister 153 = .ok (.aload_n 0, 1) := by decide +kernel
theorem d_Prc_changeRegister_154 : decode b_Prc_changeRegister 154 = .ok (.bipush 6, 2) := by decide +kernel
theorem d_Prc_changeRegister_156 : decode b_Prc_changeRegister 156 = .ok (.aload_n 0, 1) := by decide +kernel
theorem d_Prc_changeRegister_157 : decode b_Prc_changeRegister 157 = .ok (.getfield 13, 3) := by decide +kernel
theorem d_Prc_changeRegister_160 : decode b_Prc_changeRegister 160 = .ok (.invokevirtual 150, 3) := by decide +kernel
theorem d_Prc_changeRegister_163 : decode b_Prc_changeRegister 163 = .ok (.iload_n 2, 1) := by decide +kernel
theorem d_Prc_changeRegister_164 : decode b_Prc_changeRegister 164 = .ok (.invokevirtual 186, 3) := by decide +kernel
theorem d_Prc_changeRegister_167 : decode b_Prc_changeRegister 167 = .ok (.invokevirtual 153, 3) := by decide +kernel
theorem d_Prc_changeRegister_170 : decode b_Prc_changeRegister 170 = .ok (.goto 81, 3) := by decide +kernel
theorem d_Prc_changeRegister_173 : decode b_Prc_changeRegister 173 = .ok (.aload_n 0, 1) := by decide +kernel
theorem d_Prc_changeRegister_174 : decode b_Prc_changeRegister 174 = .ok (.getfield 13, 3) := by decide +kernel
theorem d_Prc_changeRegister_177 : decode b_Prc_changeRegister 177 = .ok (.aload_n 0, 1) := by decide +kernel
theorem d_Prc_changeRegister_178 : decode b_Prc_changeRegister 178 = .ok (.getfield 13, 3) := by decide +kernel
theorem d_Prc_changeRegister_181 : decode b_Prc_changeRegister 181 = .ok (.getfield 180, 3) := by decide +kernel
theorem d_Prc_changeRegister_184 : decode b_Prc_changeRegister 184 = .ok (.iconst 1, 1) := by decide +kernel
theorem d_Prc_changeRegister_185 : decode b_Prc_changeRegister 185 = .ok (.iadd, 1) := by decide +kernel
theorem d_Prc_changeRegister_186 : decode b_Prc_changeRegister 186 = .ok (.invokevirtual 174, 3) := by decide +kernel
theorem d_Prc_changeRegister_189 : decode b_Prc_changeRegister 189 = .ok (.goto 62, 3) := by decide +kernel
theorem d_Prc_changeRegister_192 : decode b_Prc_changeRegister 192 = .ok (.aload_n 0, 1) := by decide +kernel
theorem d_Prc_changeRegister_193 : decode b_Prc_changeRegister 193 = .ok (.getfield 13, 3) := by decide +kernel
theorem d_Prc_changeRegister_196 : decode b_Prc_changeRegister 196 = .ok (.aload_n 0, 1) := by decide +kernel
theorem d_Prc_changeRegister_197 : decode b_Prc_changeRegister 197 = .ok (.getfield 13, 3) := by decide +kernel
theorem d_Prc_changeRegister_200 : decode b_Prc_changeRegister 200 = .ok (.getfield 183, 3) := by decide +kernel
theorem d_Prc_changeRegister_203 : decode b_Prc_changeRegister 203 = .ok (.iconst 1, 1) := by decide +kernel
theorem d_Prc_changeRegister_204 : decode b_Prc_changeRegister 204 = .ok (.iadd, 1) := by decide +kernel
theorem d_Prc_changeRegister_205 : decode b_Prc_changeRegister 205 = .ok (.invokevirtual 177, 3) := by decide +kernel
theorem d_Prc_changeRegister_208 : decode b_Prc_changeRegister 208 = .ok (.goto 43, 3) := by decide +kernel
theorem d_Prc_changeRegister_211 : decode b_Prc_changeRegister 211 = .ok (.aload_n 0, 1) := by decide +kernel
theorem d_Prc_changeRegister_212 : decode b_Prc_changeRegister 212 = .ok (.getfield 13, 3) := by decide +kernel
theorem d_Prc_changeRegister_215 : decode b_Prc_changeRegister 215 = .ok (.aload_n 0, 1) := by decide +kernel
theorem d_Prc_changeRegister_216 : decode b_Prc_changeRegister 216 = .ok (.getfield 13, 3) := by decide +kernel
theorem d_Prc_changeRegister_219 : decode b_Prc_changeRegister 219 = .ok (.getfield 180, 3) := by decide +kernel
theorem d_Prc_changeRegister_222 : decode b_Prc_changeRegister 222 = .ok (.iconst 1, 1) := by decide +kernel
theorem d_Prc_changeRegister_223 : decode b_Prc_changeRegister 223 = .ok (.isub, 1) := by decide +kernel
theorem d_Prc_changeRegister_224 : decode b_Prc_changeRegister 224 = .ok (.invokevirtual 174, 3) := by decide +kernel
theorem d_Prc_changeRegister_227 : decode b_Prc_changeRegister 227 = .ok (.goto 24, 3) := by decide +kernel
theorem d_Prc_changeRegister_230 : decode b_Prc_changeRegister 230 = .ok (.aload_n 0, 1) := by decide +kernel
theorem d_Prc_changeRegister_231 : decode b_Prc_changeRegister 231 = .ok (.getfield 13, 3) := by decide +kernel
theorem d_Prc_changeRegister_234 : decode b_Prc_changeRegister 234 = .ok (.aload_n 0, 1) := by decide +kernel
theorem d_Prc_changeRegister_235 : decode b_Prc_changeRegister 235 = .ok (.getfield 13, 3) := by decide +kernel
theorem d_Prc_changeRegister_238 : decode b_Prc_changeRegister 238 = .ok (.getfield 183, 3) := by decide +kernel
theorem d_Prc_changeRegister_241 : decode b_Prc_changeRegister 241 = .ok (.iconst 1, 1) := by decide +kernel
theorem d_Prc_changeRegister_242 : decode b_Prc_changeRegister 242 = .ok (.isub, 1) := by decide +kernel
theorem d_Prc_changeRegister_243 : decode b_Prc_changeRegister 243 = .ok (.invokevirtual 177, 3) := by decide +kernel
theorem d_Prc_changeRegister_246 : decode b_Prc_changeRegister 246 = .ok (.goto 5, 3) := by decide +kernel
theorem d_Prc_changeRegister_249 : decode b_Prc_changeRegister 249 = .ok (.iconst 0, 1) := by decide +kernel
theorem d_Prc_changeRegister_250 : decode b_Prc_changeRegister 250 = .ok (.ireturn, 1) := by decide +kernel
theorem d_Prc_changeRegister_251 : decode b_Prc_changeRegister 251 = .ok (.iconst 1, 1) := by decide +kernel
theorem d_Prc_changeRegister_252 : decode b_Prc_changeRegister 252 = .ok (.ireturn, 1) := by decide +kernel
theorem d_Prc_changed_0 : decode b_Prc_changed 0 = .ok (.iload_n 3, 1) := by decide +kernel
theorem d_Prc_changed_1 : decode b_Prc_changed 1 = .ok (.invokestatic 162, 3) := by decide +kernel
theorem d_Prc_changed_4 : decode b_Prc_changed 4 = .ok (.istore 4, 2) := by decide +kernel
theorem d_Prc_changed_6 : decode b_Prc_changed 6 = .ok (.iload_n 3, 1) := by decide +kernel
theorem d_Prc_changed_7 : decode b_Prc_changed 7 = .ok (.invokestatic 165, 3) := by decide +kernel
theorem d_Prc_changed_10 : decode b_Prc_changed 10 = .ok (.istore 5, 2) := by decide +kernel
theorem d_Prc_changed_12 : decode b_Prc_changed 12 = .ok (.aload_n 0, 1) := by decide +kernel
theorem d_Prc_changed_13 : decode b_Prc_changed 13 = .ok (.getfield 13, 3) := by decide +kernel
theorem d_Prc_changed_16 : decode b_Prc_changed 16 = .ok (.iconst 1, 1) := by decide +kernel
theorem d_Prc_changed_17 : decode b_Prc_changed 17 = .ok (.invokevirtual 50, 3) := by decide +kernel
theorem d_Prc_changed_20 : decode b_Prc_changed 20 = .ok (.istore 6, 2) := by decide +kernel
theorem d_Prc_changed_22 : decode b_Prc_changed 22 = .ok (.iload_n 1, 1) := by decide +kernel
theorem d_Prc_changed_23 : decode b_Prc_changed 23 = .ok (.tableswitch 74 0 3 #[29, 29, 52, 52], 29) := by decide +kernel
theorem d_Prc_changed_52 : decode b_Prc_changed 52 = .ok (.aload_n 0, 1) := by decide +kernel
theorem d_Prc_changed_53 : decode b_Prc_changed 53 = .ok (.getfield 13, 3) := by decide +kernel
theorem d_Prc_changed_56 : decode b_Prc_changed 56 = .ok (.iconst 1, 1) := by decide +kernel
theorem d_Prc_changed_57 : decode b_Prc_changed 57 = .ok (.iload_n 2, 1) := by decide +kernel
theorem d_Prc_changed_58 : decode b_Prc_changed 58 = .ok (.iload 5, 2) := by decide +kernel
theorem d_Prc_changed_60 : decode b_Prc_changed 60 = .ok (.iand, 1) := by decide +kernel
theorem d_Prc_changed_61 : decode b_Prc_changed 61 = .ok (.ifCond .eq 7, 3) := by decide +kernel
theorem d_Prc_changed_64 : decode b_Prc_changed 64 = .ok (.iconst 1, 1) := by decide +kernel
theorem d_Prc_changed_65 : decode b_Prc_changed 65 = .ok (.goto 4, 3) := by decide +kernel
theorem d_Prc_changed_68 : decode b_Prc_changed 68 = .ok (.iconst 0, 1) := by decide +kernel
theorem d_Prc_changed_69 : decode b_Prc_changed 69 = .ok (.invokevirtual 112, 3) := by decide +kernel
theorem d_Prc_changed_72 : decode b_Prc_changed 72 = .ok (.goto 25, 3) := by decide +kernel
theorem d_Prc_changed_75 : decode b_Prc_changed 75 = .ok (.aload_n 0, 1) := by decide +kernel
theorem d_Prc_changed_76 : decode b_Prc_changed 76 = .ok (.getfield 13, 3) := by decide +kernel
theorem d_Prc_changed_79 : decode b_Prc_changed 79 = .ok (.iconst 1, 1) := by decide +kernel
theorem d_Prc_changed_80 : decode b_Prc_changed 80 = .ok (.iload_n 2, 1) := by decide +kernel
theorem d_Prc_changed_81 : decode b_Prc_changed 81 = .ok (.iconst 1, 1) := by decide +kernel
theorem d_Prc_changed_82 : decode b_Prc_changed 82 = .ok (.iand, 1) := by decide +kernel
theorem d_Prc_changed_83 : decode b_Prc_changed 83 = .ok (.ifCond .eq 7, 3) := by decide +kernel
theorem d_Prc_changed_86 : decode b_Prc_changed 86 = .ok (.iconst 1, 1) := by decide +kernel
theorem d_Prc_changed_87 : decode b_Prc_changed 87 = .ok (.goto 4, 3) := by decide +kernel
theorem d_Prc_changed_90 : decode b_Prc_changed 90 = .ok (.iconst 0, 1) := by decide +kernel
theorem d_Prc_changed_91 : decode b_Prc_changed 91 = .ok (.invokevirtual 112, 3) := by decide +kernel
theorem d_Prc_changed_94 : decode b_Prc_changed 94 = .ok (.goto 3, 3) := by decide +kernel
theorem d_Prc_changed_97 : decode b_Prc_changed 97 = .ok (.iload_n 1, 1) := by decide +kernel
theorem d_Prc_changed_98 : decode b_Prc_changed 98 = .ok (.tableswitch 117 0 7 #[46, 55, 75, 81, 117, 117, 108, 99], 46) := by decide +kernel
theorem d_Prc_changed_144 : decode b_Prc_changed 144 = .ok (.iload_n 2, 1) := by decide +kernel
theorem d_Prc_changed_145 : decode b_Prc_changed 145 = .ok (.iconst 1, 1) := by decide +kernel
theorem d_Prc_changed_146 : decode b_Prc_changed 146 = .ok (.ishl, 1) := by decide +kernel
theorem d_Prc_changed_147 : decode b_Prc_changed 147 = .ok (.iload 4, 2) := by decide +kernel
theorem d_Prc_changed_149 : decode b_Prc_changed 149 = .ok (.iand, 1) := by decide +kernel
theorem d_Prc_changed_150 : decode b_Prc_changed 150 = .ok (.goto 66, 3) := by decide +kernel
theorem d_Prc_changed_153 : decode b_Prc_changed 153 = .ok (.iload_n 2, 1) := by decide +kernel
