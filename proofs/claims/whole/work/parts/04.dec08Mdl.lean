theorem d_Mdl_arithmetic_72 : decode b_Mdl_arithmetic 72 = .ok (.iload 5, 2) := by decide +kernel
theorem d_Mdl_arithmetic_74 : decode b_Mdl_arithmetic 74 = .ok (.ifCond .eq 12, 3) := by decide +kernel
theorem d_Mdl_arithmetic_77 : decode b_Mdl_arithmetic 77 = .ok (.aload_n 0, 1) := by decide +kernel
theorem d_Mdl_arithmetic_78 : decode b_Mdl_arithmetic 78 = .ok (.iload 4, 2) := by decide +kernel
theorem d_Mdl_arithmetic_80 : decode b_Mdl_arithmetic 80 = .ok (.invokevirtual 129, 3) := by decide +kernel
theorem d_Mdl_arithmetic_83 : decode b_Mdl_arithmetic 83 = .ok (.goto 9, 3) := by decide +kernel
theorem d_Mdl_arithmetic_86 : decode b_Mdl_arithmetic 86 = .ok (.aload_n 0, 1) := by decide +kernel
theorem d_Mdl_arithmetic_87 : decode b_Mdl_arithmetic 87 = .ok (.iload 4, 2) := by decide +kernel
theorem d_Mdl_arithmetic_89 : decode b_Mdl_arithmetic 89 = .ok (.invokevirtual 133, 3) := by decide +kernel
theorem d_Mdl_arithmetic_92 : decode b_Mdl_arithmetic 92 = .ok (.istore 6, 2) := by decide +kernel
theorem d_Mdl_arithmetic_94 : decode b_Mdl_arithmetic 94 = .ok (.iload_n 2, 1) := by decide +kernel
theorem d_Mdl_arithmetic_95 : decode b_Mdl_arithmetic 95 = .ok (.iconst 3, 1) := by decide +kernel
theorem d_Mdl_arithmetic_96 : decode b_Mdl_arithmetic 96 = .ok (.if_icmp .ne 12, 3) := by decide +kernel
theorem d_Mdl_arithmetic_99 : decode b_Mdl_arithmetic 99 = .ok (.aload_n 0, 1) := by decide +kernel
theorem d_Mdl_arithmetic_100 : decode b_Mdl_arithmetic 100 = .ok (.iload 6, 2) := by decide +kernel
theorem d_Mdl_arithmetic_102 : decode b_Mdl_arithmetic 102 = .ok (.invokevirtual 136, 3) := by decide +kernel
theorem d_Mdl_arithmetic_105 : decode b_Mdl_arithmetic 105 = .ok (.goto 103, 3) := by decide +kernel
theorem d_Mdl_arithmetic_108 : decode b_Mdl_arithmetic 108 = .ok (.iload_n 2, 1) := by decide +kernel
theorem d_Mdl_arithmetic_109 : decode b_Mdl_arithmetic 109 = .ok (.bipush 7, 2) := by decide +kernel
theorem d_Mdl_arithmetic_111 : decode b_Mdl_arithmetic 111 = .ok (.if_icmp .ne 20, 3) := by decide +kernel
theorem d_Mdl_arithmetic_114 : decode b_Mdl_arithmetic 114 = .ok (.aload_n 0, 1) := by decide +kernel
theorem d_Mdl_arithmetic_115 : decode b_Mdl_arithmetic 115 = .ok (.aload_n 0, 1) := by decide +kernel
theorem d_Mdl_arithmetic_116 : decode b_Mdl_arithmetic 116 = .ok (.iload 6, 2) := by decide +kernel
theorem d_Mdl_arithmetic_118 : decode b_Mdl_arithmetic 118 = .ok (.iconst (-1), 1) := by decide +kernel
theorem d_Mdl_arithmetic_119 : decode b_Mdl_arithmetic 119 = .ok (.ixor, 1) := by decide +kernel
theorem d_Mdl_arithmetic_120 : decode b_Mdl_arithmetic 120 = .ok (.iload 4, 2) := by decide +kernel
theorem d_Mdl_arithmetic_122 : decode b_Mdl_arithmetic 122 = .ok (.invokevirtual 75, 3) := by decide +kernel
theorem d_Mdl_arithmetic_125 : decode b_Mdl_arithmetic 125 = .ok (.invokevirtual 136, 3) := by decide +kernel
theorem d_Mdl_arithmetic_128 : decode b_Mdl_arithmetic 128 = .ok (.goto 80, 3) := by decide +kernel
theorem d_Mdl_arithmetic_131 : decode b_Mdl_arithmetic 131 = .ok (.iload_n 2, 1) := by decide +kernel
theorem d_Mdl_arithmetic_132 : decode b_Mdl_arithmetic 132 = .ok (.bipush 6, 2) := by decide +kernel
theorem d_Mdl_arithmetic_134 : decode b_Mdl_arithmetic 134 = .ok (.if_icmp .ne 18, 3) := by decide +kernel
theorem d_Mdl_arithmetic_137 : decode b_Mdl_arithmetic 137 = .ok (.aload_n 0, 1) := by decide +kernel
theorem d_Mdl_arithmetic_138 : decode b_Mdl_arithmetic 138 = .ok (.aload_n 0, 1) := by decide +kernel
theorem d_Mdl_arithmetic_139 : decode b_Mdl_arithmetic 139 = .ok (.invokevirtual 114, 3) := by decide +kernel
theorem d_Mdl_arithmetic_142 : decode b_Mdl_arithmetic 142 = .ok (.iload 6, 2) := by decide +kernel
theorem d_Mdl_arithmetic_144 : decode b_Mdl_arithmetic 144 = .ok (.iload 4, 2) := by decide +kernel
theorem d_Mdl_arithmetic_146 : decode b_Mdl_arithmetic 146 = .ok (.invokevirtual 139, 3) := by decide +kernel
theorem d_Mdl_arithmetic_149 : decode b_Mdl_arithmetic 149 = .ok (.goto 59, 3) := by decide +kernel
theorem d_Mdl_arithmetic_152 : decode b_Mdl_arithmetic 152 = .ok (.aload_n 0, 1) := by decide +kernel
theorem d_Mdl_arithmetic_153 : decode b_Mdl_arithmetic 153 = .ok (.invokevirtual 114, 3) := by decide +kernel
theorem d_Mdl_arithmetic_156 : decode b_Mdl_arithmetic 156 = .ok (.istore 7, 2) := by decide +kernel
theorem d_Mdl_arithmetic_158 : decode b_Mdl_arithmetic 158 = .ok (.aload_n 0, 1) := by decide +kernel
theorem d_Mdl_arithmetic_159 : decode b_Mdl_arithmetic 159 = .ok (.aload_n 0, 1) := by decide +kernel
theorem d_Mdl_arithmetic_160 : decode b_Mdl_arithmetic 160 = .ok (.iload_n 2, 1) := by decide +kernel
theorem d_Mdl_arithmetic_161 : decode b_Mdl_arithmetic 161 = .ok (.ifCond .ne 11, 3) := by decide +kernel
theorem d_Mdl_arithmetic_164 : decode b_Mdl_arithmetic 164 = .ok (.iload 7, 2) := by decide +kernel
theorem d_Mdl_arithmetic_166 : decode b_Mdl_arithmetic 166 = .ok (.iload 6, 2) := by decide +kernel
theorem d_Mdl_arithmetic_168 : decode b_Mdl_arithmetic 168 = .ok (.ior, 1) := by decide +kernel
theorem d_Mdl_arithmetic_169 : decode b_Mdl_arithmetic 169 = .ok (.goto 31, 3) := by decide +kernel
theorem d_Mdl_arithmetic_172 : decode b_Mdl_arithmetic 172 = .ok (.iload_n 2, 1) := by decide +kernel
theorem d_Mdl_arithmetic_173 : decode b_Mdl_arithmetic 173 = .ok (.iconst 1, 1) := by decide +kernel
theorem d_Mdl_arithmetic_174 : decode b_Mdl_arithmetic 174 = .ok (.if_icmp .ne 11, 3) := by decide +kernel
theorem d_Mdl_arithmetic_177 : decode b_Mdl_arithmetic 177 = .ok (.iload 7, 2) := by decide +kernel
theorem d_Mdl_arithmetic_179 : decode b_Mdl_arithmetic 179 = .ok (.iload 6, 2) := by decide +kernel
theorem d_Mdl_arithmetic_181 : decode b_Mdl_arithmetic 181 = .ok (.iand, 1) := by decide +kernel
theorem d_Mdl_arithmetic_182 : decode b_Mdl_arithmetic 182 = .ok (.goto 18, 3) := by decide +kernel
theorem d_Mdl_arithmetic_185 : decode b_Mdl_arithmetic 185 = .ok (.iload_n 2, 1) := by decide +kernel
theorem d_Mdl_arithmetic_186 : decode b_Mdl_arithmetic 186 = .ok (.iconst 2, 1) := by decide +kernel
theorem d_Mdl_arithmetic_187 : decode b_Mdl_arithmetic 187 = .ok (.if_icmp .ne 11, 3) := by decide +kernel
theorem d_Mdl_arithmetic_190 : decode b_Mdl_arithmetic 190 = .ok (.iload 7, 2) := by decide +kernel
theorem d_Mdl_arithmetic_192 : decode b_Mdl_arithmetic 192 = .ok (.iload 6, 2) := by decide +kernel
theorem d_Mdl_arithmetic_194 : decode b_Mdl_arithmetic 194 = .ok (.ixor, 1) := by decide +kernel
theorem d_Mdl_arithmetic_195 : decode b_Mdl_arithmetic 195 = .ok (.goto 5, 3) := by decide +kernel
theorem d_Mdl_arithmetic_198 : decode b_Mdl_arithmetic 198 = .ok (.iload 6, 2) := by decide +kernel
theorem d_Mdl_arithmetic_200 : decode b_Mdl_arithmetic 200 = .ok (.iload 4, 2) := by decide +kernel
theorem d_Mdl_arithmetic_202 : decode b_Mdl_arithmetic 202 = .ok (.invokevirtual 117, 3) := by decide +kernel
theorem d_Mdl_arithmetic_205 : decode b_Mdl_arithmetic 205 = .ok (.invokevirtual 120, 3) := by decide +kernel
theorem d_Mdl_arithmetic_208 : decode b_Mdl_arithmetic 208 = .ok (.iconst 1, 1) := by decide +kernel
theorem d_Mdl_arithmetic_209 : decode b_Mdl_arithmetic 209 = .ok (.ireturn, 1) := by decide +kernel
theorem d_Mdl_changed_0 : decode b_Mdl_changed 0 = .ok (.iload_n 3, 1) := by decide +kernel
theorem d_Mdl_changed_1 : decode b_Mdl_changed 1 = .ok (.ifCond .eq 9, 3) := by decide +kernel
theorem d_Mdl_changed_4 : decode b_Mdl_changed 4 = .ok (.sipush 128, 3) := by decide +kernel
theorem d_Mdl_changed_7 : decode b_Mdl_changed 7 = .ok (.goto 5, 3) := by decide +kernel
theorem d_Mdl_changed_10 : decode b_Mdl_changed 10 = .ok (.ldc 78, 2) := by decide +kernel
theorem d_Mdl_changed_12 : decode b_Mdl_changed 12 = .ok (.istore 4, 2) := by decide +kernel
theorem d_Mdl_changed_14 : decode b_Mdl_changed 14 = .ok (.aload_n 0, 1) := by decide +kernel
theorem d_Mdl_changed_15 : decode b_Mdl_changed 15 = .ok (.iconst 1, 1) := by decide +kernel
theorem d_Mdl_changed_16 : decode b_Mdl_changed 16 = .ok (.invokevirtual 67, 3) := by decide +kernel
theorem d_Mdl_changed_19 : decode b_Mdl_changed 19 = .ok (.ifCond .eq 7, 3) := by decide +kernel
theorem d_Mdl_changed_22 : decode b_Mdl_changed 22 = .ok (.iconst 1, 1) := by decide +kernel
theorem d_Mdl_changed_23 : decode b_Mdl_changed 23 = .ok (.goto 4, 3) := by decide +kernel
theorem d_Mdl_changed_26 : decode b_Mdl_changed 26 = .ok (.iconst 0, 1) := by decide +kernel
theorem d_Mdl_changed_27 : decode b_Mdl_changed 27 = .ok (.istore 5, 2) := by decide +kernel
theorem d_Mdl_changed_29 : decode b_Mdl_changed 29 = .ok (.iload_n 1, 1) := by decide +kernel
theorem d_Mdl_changed_30 : decode b_Mdl_changed 30 = .ok (.iconst 2, 1) := by decide +kernel
theorem d_Mdl_changed_31 : decode b_Mdl_changed 31 = .ok (.if_icmp .ge 22, 3) := by decide +kernel
theorem d_Mdl_changed_34 : decode b_Mdl_changed 34 = .ok (.aload_n 0, 1) := by decide +kernel
theorem d_Mdl_changed_35 : decode b_Mdl_changed 35 = .ok (.iload_n 1, 1) := by decide +kernel
theorem d_Mdl_changed_36 : decode b_Mdl_changed 36 = .ok (.ifCond .ne 9, 3) := by decide +kernel
theorem d_Mdl_changed_39 : decode b_Mdl_changed 39 = .ok (.iload_n 2, 1) := by decide +kernel
theorem d_Mdl_changed_40 : decode b_Mdl_changed 40 = .ok (.iconst 1, 1) := by decide +kernel
theorem d_Mdl_changed_41 : decode b_Mdl_changed 41 = .ok (.iadd, 1) := by decide +kernel
theorem d_Mdl_changed_42 : decode b_Mdl_changed 42 = .ok (.goto 6, 3) := by decide +kernel
theorem d_Mdl_changed_45 : decode b_Mdl_changed 45 = .ok (.iload_n 2, 1) := by decide +kernel
theorem d_Mdl_changed_46 : decode b_Mdl_changed 46 = .ok (.iconst 1, 1) := by decide +kernel
theorem d_Mdl_changed_47 : decode b_Mdl_changed 47 = .ok (.isub, 1) := by decide +kernel
theorem d_Mdl_changed_48 : decode b_Mdl_changed 48 = .ok (.iload_n 3, 1) := by decide +kernel
theorem d_Mdl_changed_49 : decode b_Mdl_changed 49 = .ok (.invokevirtual 117, 3) := by decide +kernel
theorem d_Mdl_changed_52 : decode b_Mdl_changed 52 = .ok (.ireturn, 1) := by decide +kernel
theorem d_Mdl_changed_53 : decode b_Mdl_changed 53 = .ok (.iload_n 1, 1) := by decide +kernel
theorem d_Mdl_changed_54 : decode b_Mdl_changed 54 = .ok (.iconst 4, 1) := by decide +kernel
theorem d_Mdl_changed_55 : decode b_Mdl_changed 55 = .ok (.if_icmp .ge 41, 3) := by decide +kernel
theorem d_Mdl_changed_58 : decode b_Mdl_changed 58 = .ok (.aload_n 0, 1) := by decide +kernel
theorem d_Mdl_changed_59 : decode b_Mdl_changed 59 = .ok (.iconst 1, 1) := by decide +kernel
theorem d_Mdl_changed_60 : decode b_Mdl_changed 60 = .ok (.iload_n 2, 1) := by decide +kernel
theorem d_Mdl_changed_61 : decode b_Mdl_changed 61 = .ok (.iload 4, 2) := by decide +kernel
theorem d_Mdl_changed_63 : decode b_Mdl_changed 63 = .ok (.iand, 1) := by decide +kernel
theorem d_Mdl_changed_64 : decode b_Mdl_changed 64 = .ok (.ifCond .eq 7, 3) := by decide +kernel
theorem d_Mdl_changed_67 : decode b_Mdl_changed 67 = .ok (.iconst 1, 1) := by decide +kernel
theorem d_Mdl_changed_68 : decode b_Mdl_changed 68 = .ok (.goto 4, 3) := by decide +kernel
theorem d_Mdl_changed_71 : decode b_Mdl_changed 71 = .ok (.iconst 0, 1) := by decide +kernel
theorem d_Mdl_changed_72 : decode b_Mdl_changed 72 = .ok (.invokevirtual 79, 3) := by decide +kernel
theorem d_Mdl_changed_75 : decode b_Mdl_changed 75 = .ok (.aload_n 0, 1) := by decide +kernel
theorem d_Mdl_changed_76 : decode b_Mdl_changed 76 = .ok (.iconst 2, 1) := by decide +kernel
theorem d_Mdl_changed_77 : decode b_Mdl_changed 77 = .ok (.iload_n 2, 1) := by decide +kernel
theorem d_Mdl_changed_78 : decode b_Mdl_changed 78 = .ok (.imul, 1) := by decide +kernel
theorem d_Mdl_changed_79 : decode b_Mdl_changed 79 = .ok (.iload_n 1, 1) := by decide +kernel
theorem d_Mdl_changed_80 : decode b_Mdl_changed 80 = .ok (.iconst 3, 1) := by decide +kernel
theorem d_Mdl_changed_81 : decode b_Mdl_changed 81 = .ok (.if_icmp .ne 8, 3) := by decide +kernel
theorem d_Mdl_changed_84 : decode b_Mdl_changed 84 = .ok (.iload 5, 2) := by decide +kernel
theorem d_Mdl_changed_86 : decode b_Mdl_changed 86 = .ok (.goto 4, 3) := by decide +kernel
theorem d_Mdl_changed_89 : decode b_Mdl_changed 89 = .ok (.iconst 0, 1) := by decide +kernel
theorem d_Mdl_changed_90 : decode b_Mdl_changed 90 = .ok (.iadd, 1) := by decide +kernel
theorem d_Mdl_changed_91 : decode b_Mdl_changed 91 = .ok (.iload_n 3, 1) := by decide +kernel
theorem d_Mdl_changed_92 : decode b_Mdl_changed 92 = .ok (.invokevirtual 117, 3) := by decide +kernel
theorem d_Mdl_changed_95 : decode b_Mdl_changed 95 = .ok (.ireturn, 1) := by decide +kernel
theorem d_Mdl_changed_96 : decode b_Mdl_changed 96 = .ok (.aload_n 0, 1) := by decide +kernel
theorem d_Mdl_changed_97 : decode b_Mdl_changed 97 = .ok (.iconst 1, 1) := by decide +kernel
theorem d_Mdl_changed_98 : decode b_Mdl_changed 98 = .ok (.iload_n 2, 1) := by decide +kernel
theorem d_Mdl_changed_99 : decode b_Mdl_changed 99 = .ok (.iconst 1, 1) := by decide +kernel
theorem d_Mdl_changed_100 : decode b_Mdl_changed 100 = .ok (.iand, 1) := by decide +kernel
theorem d_Mdl_changed_101 : decode b_Mdl_changed 101 = .ok (.ifCond .eq 7, 3) := by decide +kernel
theorem d_Mdl_changed_104 : decode b_Mdl_changed 104 = .ok (.iconst 1, 1) := by decide +kernel
theorem d_Mdl_changed_105 : decode b_Mdl_changed 105 = .ok (.goto 4, 3) := by decide +kernel
theorem d_Mdl_changed_108 : decode b_Mdl_changed 108 = .ok (.iconst 0, 1) := by decide +kernel
theorem d_Mdl_changed_109 : decode b_Mdl_changed 109 = .ok (.invokevirtual 79, 3) := by decide +kernel
theorem d_Mdl_changed_112 : decode b_Mdl_changed 112 = .ok (.aload_n 0, 1) := by decide +kernel
theorem d_Mdl_changed_113 : decode b_Mdl_changed 113 = .ok (.iload_n 2, 1) := by decide +kernel
theorem d_Mdl_changed_114 : decode b_Mdl_changed 114 = .ok (.iconst 2, 1) := by decide +kernel
theorem d_Mdl_changed_115 : decode b_Mdl_changed 115 = .ok (.idiv, 1) := by decide +kernel
theorem d_Mdl_changed_116 : decode b_Mdl_changed 116 = .ok (.iload_n 1, 1) := by decide +kernel
theorem d_Mdl_changed_117 : decode b_Mdl_changed 117 = .ok (.iconst 5, 1) := by decide +kernel
theorem d_Mdl_changed_118 : decode b_Mdl_changed 118 = .ok (.if_icmp .ne 11, 3) := by decide +kernel
theorem d_Mdl_changed_121 : decode b_Mdl_changed 121 = .ok (.iload 5, 2) := by decide +kernel
theorem d_Mdl_changed_123 : decode b_Mdl_changed 123 = .ok (.iload 4, 2) := by decide +kernel
theorem d_Mdl_changed_125 : decode b_Mdl_changed 125 = .ok (.imul, 1) := by decide +kernel
theorem d_Mdl_changed_126 : decode b_Mdl_changed 126 = .ok (.goto 4, 3) := by decide +kernel
theorem d_Mdl_changed_129 : decode b_Mdl_changed 129 = .ok (.iconst 0, 1) := by decide +kernel
theorem d_Mdl_changed_130 : decode b_Mdl_changed 130 = .ok (.iadd, 1) := by decide +kernel
theorem d_Mdl_changed_131 : decode b_Mdl_changed 131 = .ok (.iload_n 3, 1) := by decide +kernel
theorem d_Mdl_changed_132 : decode b_Mdl_changed 132 = .ok (.invokevirtual 117, 3) := by decide +kernel
theorem d_Mdl_changed_135 : decode b_Mdl_changed 135 = .ok (.ireturn, 1) := by decide +kernel
theorem d_Mdl_changeMemory_0 : decode b_Mdl_changeMemory 0 = .ok (.aload_n 0, 1) := by decide +kernel
theorem d_Mdl_changeMemory_1 : decode b_Mdl_changeMemory 1 = .ok (.bipush 32, 2) := by decide +kernel
theorem d_Mdl_changeMemory_3 : decode b_Mdl_changeMemory 3 = .ok (.invokevirtual 67, 3) := by decide +kernel
theorem d_Mdl_changeMemory_6 : decode b_Mdl_changeMemory 6 = .ok (.istore_n 3, 1) := by decide +kernel
theorem d_Mdl_changeMemory_7 : decode b_Mdl_changeMemory 7 = .ok (.iload_n 2, 1) := by decide +kernel
theorem d_Mdl_changeMemory_8 : decode b_Mdl_changeMemory 8 = .ok (.ifCond .eq 22, 3) := by decide +kernel
theorem d_Mdl_changeMemory_11 : decode b_Mdl_changeMemory 11 = .ok (.aload_n 0, 1) := by decide +kernel
theorem d_Mdl_changeMemory_12 : decode b_Mdl_changeMemory 12 = .ok (.aload_n 0, 1) := by decide +kernel
theorem d_Mdl_changeMemory_13 : decode b_Mdl_changeMemory 13 = .ok (.getfield 102, 3) := by decide +kernel
theorem d_Mdl_changeMemory_16 : decode b_Mdl_changeMemory 16 = .ok (.bipush 16, 2) := by decide +kernel
theorem d_Mdl_changeMemory_18 : decode b_Mdl_changeMemory 18 = .ok (.ishl, 1) := by decide +kernel
theorem d_Mdl_changeMemory_19 : decode b_Mdl_changeMemory 19 = .ok (.aload_n 0, 1) := by decide +kernel
theorem d_Mdl_changeMemory_20 : decode b_Mdl_changeMemory 20 = .ok (.invokevirtual 64, 3) := by decide +kernel
theorem d_Mdl_changeMemory_23 : decode b_Mdl_changeMemory 23 = .ok (.iadd, 1) := by decide +kernel
theorem d_Mdl_changeMemory_24 : decode b_Mdl_changeMemory 24 = .ok (.invokevirtual 105, 3) := by decide +kernel
theorem d_Mdl_changeMemory_27 : decode b_Mdl_changeMemory 27 = .ok (.goto 8, 3) := by decide +kernel
theorem d_Mdl_changeMemory_30 : decode b_Mdl_changeMemory 30 = .ok (.aload_n 0, 1) := by decide +kernel
theorem d_Mdl_changeMemory_31 : decode b_Mdl_changeMemory 31 = .ok (.iconst 0, 1) := by decide +kernel
theorem d_Mdl_changeMemory_32 : decode b_Mdl_changeMemory 32 = .ok (.invokevirtual 99, 3) := by decide +kernel
theorem d_Mdl_changeMemory_35 : decode b_Mdl_changeMemory 35 = .ok (.aload_n 0, 1) := by decide +kernel
theorem d_Mdl_changeMemory_36 : decode b_Mdl_changeMemory 36 = .ok (.aload_n 0, 1) := by decide +kernel
theorem d_Mdl_changeMemory_37 : decode b_Mdl_changeMemory 37 = .ok (.iload_n 1, 1) := by decide +kernel
theorem d_Mdl_changeMemory_38 : decode b_Mdl_changeMemory 38 = .ok (.aload_n 0, 1) := by decide +kernel
theorem d_Mdl_changeMemory_39 : decode b_Mdl_changeMemory 39 = .ok (.iload_n 3, 1) := by decide +kernel
theorem d_Mdl_changeMemory_40 : decode b_Mdl_changeMemory 40 = .ok (.invokevirtual 133, 3) := by decide +kernel
theorem d_Mdl_changeMemory_43 : decode b_Mdl_changeMemory 43 = .ok (.iload_n 3, 1) := by decide +kernel
theorem d_Mdl_changeMemory_44 : decode b_Mdl_changeMemory 44 = .ok (.invokevirtual 143, 3) := by decide +kernel
theorem d_Mdl_changeMemory_47 : decode b_Mdl_changeMemory 47 = .ok (.iload_n 3, 1) := by decide +kernel
theorem d_Mdl_changeMemory_48 : decode b_Mdl_changeMemory 48 = .ok (.invokevirtual 126, 3) := by decide +kernel
theorem d_Mdl_changeMemory_51 : decode b_Mdl_changeMemory 51 = .ok (.return_, 1) := by decide +kernel
theorem d_Mdl_change_0 : decode b_Mdl_change 0 = .ok (.iload_n 1, 1) := by decide +kernel
theorem d_Mdl_change_1 : decode b_Mdl_change 1 = .ok (.lookupswitch 327 #[(6, 159), (10, 239), (26, 195), (38, 168), (42, 261), (58, 217), (70, 177), (74, 283), (102, 186), (106, 305), (198, 141), (206, 150), (230, 123), (238, 132)], 123) := by decide +kernel
theorem d_Mdl_change_124 : decode b_Mdl_change 124 = .ok (.aload_n 0, 1) := by decide +kernel
theorem d_Mdl_change_125 : decode b_Mdl_change 125 = .ok (.iconst 0, 1) := by decide +kernel
theorem d_Mdl_change_126 : decode b_Mdl_change 126 = .ok (.iconst 0, 1) := by decide +kernel
theorem d_Mdl_change_127 : decode b_Mdl_change 127 = .ok (.invokevirtual 147, 3) := by decide +kernel
theorem d_Mdl_change_130 : decode b_Mdl_change 130 = .ok (.goto 200, 3) := by decide +kernel
theorem d_Mdl_change_133 : decode b_Mdl_change 133 = .ok (.aload_n 0, 1) := by decide +kernel
theorem d_Mdl_change_134 : decode b_Mdl_change 134 = .ok (.iconst 0, 1) := by decide +kernel
theorem d_Mdl_change_135 : decode b_Mdl_change 135 = .ok (.iconst 1, 1) := by decide +kernel
theorem d_Mdl_change_136 : decode b_Mdl_change 136 = .ok (.invokevirtual 147, 3) := by decide +kernel
theorem d_Mdl_change_139 : decode b_Mdl_change 139 = .ok (.goto 191, 3) := by decide +kernel
theorem d_Mdl_change_142 : decode b_Mdl_change 142 = .ok (.aload_n 0, 1) := by decide +kernel
theorem d_Mdl_change_143 : decode b_Mdl_change 143 = .ok (.iconst 1, 1) := by decide +kernel
theorem d_Mdl_change_144 : decode b_Mdl_change 144 = .ok (.iconst 0, 1) := by decide +kernel
theorem d_Mdl_change_145 : decode b_Mdl_change 145 = .ok (.invokevirtual 147, 3) := by decide +kernel
theorem d_Mdl_change_148 : decode b_Mdl_change 148 = .ok (.goto 182, 3) := by decide +kernel
theorem d_Mdl_change_151 : decode b_Mdl_change 151 = .ok (.aload_n 0, 1) := by decide +kernel
theorem d_Mdl_change_152 : decode b_Mdl_change 152 = .ok (.iconst 1, 1) := by decide +kernel
theorem d_Mdl_change_153 : decode b_Mdl_change 153 = .ok (.iconst 1, 1) := by decide +kernel
theorem d_Mdl_change_154 : decode b_Mdl_change 154 = .ok (.invokevirtual 147, 3) := by decide +kernel
theorem d_Mdl_change_157 : decode b_Mdl_change 157 = .ok (.goto 173, 3) := by decide +kernel
theorem d_Mdl_change_160 : decode b_Mdl_change 160 = .ok (.aload_n 0, 1) := by decide +kernel
theorem d_Mdl_change_161 : decode b_Mdl_change 161 = .ok (.iconst 2, 1) := by decide +kernel
theorem d_Mdl_change_162 : decode b_Mdl_change 162 = .ok (.iconst 0, 1) := by decide +kernel
theorem d_Mdl_change_163 : decode b_Mdl_change 163 = .ok (.invokevirtual 147, 3) := by decide +kernel
theorem d_Mdl_change_166 : decode b_Mdl_change 166 = .ok (.goto 164, 3) := by decide +kernel
theorem d_Mdl_change_169 : decode b_Mdl_change 169 = .ok (.aload_n 0, 1) := by decide +kernel
theorem d_Mdl_change_170 : decode b_Mdl_change 170 = .ok (.iconst 3, 1) := by decide +kernel
theorem d_Mdl_change_171 : decode b_Mdl_change 171 = .ok (.iconst 0, 1) := by decide +kernel
theorem d_Mdl_change_172 : decode b_Mdl_change 172 = .ok (.invokevirtual 147, 3) := by decide +kernel
theorem d_Mdl_change_175 : decode b_Mdl_change 175 = .ok (.goto 155, 3) := by decide +kernel
theorem d_Mdl_change_178 : decode b_Mdl_change 178 = .ok (.aload_n 0, 1) := by decide +kernel
theorem d_Mdl_change_179 : decode b_Mdl_change 179 = .ok (.iconst 4, 1) := by decide +kernel
theorem d_Mdl_change_180 : decode b_Mdl_change 180 = .ok (.iconst 0, 1) := by decide +kernel
theorem d_Mdl_change_181 : decode b_Mdl_change 181 = .ok (.invokevirtual 147, 3) := by decide +kernel
theorem d_Mdl_change_184 : decode b_Mdl_change 184 = .ok (.goto 146, 3) := by decide +kernel
theorem d_Mdl_change_187 : decode b_Mdl_change 187 = .ok (.aload_n 0, 1) := by decide +kernel
theorem d_Mdl_change_188 : decode b_Mdl_change 188 = .ok (.iconst 5, 1) := by decide +kernel
theorem d_Mdl_change_189 : decode b_Mdl_change 189 = .ok (.iconst 0, 1) := by decide +kernel
theorem d_Mdl_change_190 : decode b_Mdl_change 190 = .ok (.invokevirtual 147, 3) := by decide +kernel
theorem d_Mdl_change_193 : decode b_Mdl_change 193 = .ok (.goto 137, 3) := by decide +kernel
theorem d_Mdl_change_196 : decode b_Mdl_change 196 = .ok (.aload_n 0, 1) := by decide +kernel
theorem d_Mdl_change_197 : decode b_Mdl_change 197 = .ok (.aload_n 0, 1) := by decide +kernel
theorem d_Mdl_change_198 : decode b_Mdl_change 198 = .ok (.iconst 0, 1) := by decide +kernel
theorem d_Mdl_change_199 : decode b_Mdl_change 199 = .ok (.aload_n 0, 1) := by decide +kernel
theorem d_Mdl_change_200 : decode b_Mdl_change 200 = .ok (.invokevirtual 114, 3) := by decide +kernel
theorem d_Mdl_change_203 : decode b_Mdl_change 203 = .ok (.aload_n 0, 1) := by decide +kernel
theorem d_Mdl_change_204 : decode b_Mdl_change 204 = .ok (.bipush 32, 2) := by decide +kernel
theorem d_Mdl_change_206 : decode b_Mdl_change 206 = .ok (.invokevirtual 67, 3) := by decide +kernel
theorem d_Mdl_change_209 : decode b_Mdl_change 209 = .ok (.invokevirtual 143, 3) := by decide +kernel
theorem d_Mdl_change_212 : decode b_Mdl_change 212 = .ok (.invokevirtual 120, 3) := by decide +kernel
theorem d_Mdl_change_215 : decode b_Mdl_change 215 = .ok (.goto 115, 3) := by decide +kernel
theorem d_Mdl_change_218 : decode b_Mdl_change 218 = .ok (.aload_n 0, 1) := by decide +kernel
theorem d_Mdl_change_219 : decode b_Mdl_change 219 = .ok (.aload_n 0, 1) := by decide +kernel
theorem d_Mdl_change_220 : decode b_Mdl_change 220 = .ok (.iconst 1, 1) := by decide +kernel
theorem d_Mdl_change_221 : decode b_Mdl_change 221 = .ok (.aload_n 0, 1) := by decide +kernel
theorem d_Mdl_change_222 : decode b_Mdl_change 222 = .ok (.invokevirtual 114, 3) := by decide +kernel
theorem d_Mdl_change_225 : decode b_Mdl_change 225 = .ok (.aload_n 0, 1) := by decide +kernel
theorem d_Mdl_change_226 : decode b_Mdl_change 226 = .ok (.bipush 32, 2) := by decide +kernel
theorem d_Mdl_change_228 : decode b_Mdl_change 228 = .ok (.invokevirtual 67, 3) := by decide +kernel
theorem d_Mdl_change_231 : decode b_Mdl_change 231 = .ok (.invokevirtual 143, 3) := by decide +kernel
theorem d_Mdl_change_234 : decode b_Mdl_change 234 = .ok (.invokevirtual 120, 3) := by decide +kernel
theorem d_Mdl_change_237 : decode b_Mdl_change 237 = .ok (.goto 93, 3) := by decide +kernel
theorem d_Mdl_change_240 : decode b_Mdl_change 240 = .ok (.aload_n 0, 1) := by decide +kernel
theorem d_Mdl_change_241 : decode b_Mdl_change 241 = .ok (.aload_n 0, 1) := by decide +kernel
theorem d_Mdl_change_242 : decode b_Mdl_change 242 = .ok (.iconst 2, 1) := by decide +kernel
theorem d_Mdl_change_243 : decode b_Mdl_change 243 = .ok (.aload_n 0, 1) := by decide +kernel
theorem d_Mdl_change_244 : decode b_Mdl_change 244 = .ok (.invokevirtual 114, 3) := by decide +kernel
theorem d_Mdl_change_247 : decode b_Mdl_change 247 = .ok (.aload_n 0, 1) := by decide +kernel
theorem d_Mdl_change_248 : decode b_Mdl_change 248 = .ok (.bipush 32, 2) := by decide +kernel
theorem d_Mdl_change_250 : decode b_Mdl_change 250 = .ok (.invokevirtual 67, 3) := by decide +kernel
theorem d_Mdl_change_253 : decode b_Mdl_change 253 = .ok (.invokevirtual 143, 3) := by decide +kernel
theorem d_Mdl_change_256 : decode b_Mdl_change 256 = .ok (.invokevirtual 120, 3) := by decide +kernel
theorem d_Mdl_change_259 : decode b_Mdl_change 259 = .ok (.goto 71, 3) := by decide +kernel
theorem d_Mdl_change_262 : decode b_Mdl_change 262 = .ok (.aload_n 0, 1) := by decide +kernel
theorem d_Mdl_change_263 : decode b_Mdl_change 263 = .ok (.aload_n 0, 1) := by decide +kernel
theorem d_Mdl_change_264 : decode b_Mdl_change 264 = .ok (.iconst 3, 1) := by decide +kernel
theorem d_Mdl_change_265 : decode b_Mdl_change 265 = .ok (.aload_n 0, 1) := by decide +kernel
theorem d_Mdl_change_266 : decode b_Mdl_change 266 = .ok (.invokevirtual 114, 3) := by decide +kernel
theorem d_Mdl_change_269 : decode b_Mdl_change 269 = .ok (.aload_n 0, 1) := by decide +kernel
theorem d_Mdl_change_270 : decode b_Mdl_change 270 = .ok (.bipush 32, 2) := by decide +kernel
theorem d_Mdl_change_272 : decode b_Mdl_change 272 = .ok (.invokevirtual 67, 3) := by decide +kernel
theorem d_Mdl_change_275 : decode b_Mdl_change 275 = .ok (.invokevirtual 143, 3) := by decide +kernel
theorem d_Mdl_change_278 : decode b_Mdl_change 278 = .ok (.invokevirtual 120, 3) := by decide +kernel
theorem d_Mdl_change_281 : decode b_Mdl_change 281 = .ok (.goto 49, 3) := by decide +kernel
theorem d_Mdl_change_284 : decode b_Mdl_change 284 = .ok (.aload_n 0, 1) := by decide +kernel
theorem d_Mdl_change_285 : decode b_Mdl_change 285 = .ok (.aload_n 0, 1) := by decide +kernel
theorem d_Mdl_change_286 : decode b_Mdl_change 286 = .ok (.iconst 4, 1) := by decide +kernel
theorem d_Mdl_change_287 : decode b_Mdl_change 287 = .ok (.aload_n 0, 1) := by decide +kernel
theorem d_Mdl_change_288 : decode b_Mdl_change 288 = .ok (.invokevirtual 114, 3) := by decide +kernel
theorem d_Mdl_change_291 : decode b_Mdl_change 291 = .ok (.aload_n 0, 1) := by decide +kernel
theorem d_Mdl_change_292 : decode b_Mdl_change 292 = .ok (.bipush 32, 2) := by decide +kernel
theorem d_Mdl_change_294 : decode b_Mdl_change 294 = .ok (.invokevirtual 67, 3) := by decide +kernel
theorem d_Mdl_change_297 : decode b_Mdl_change 297 = .ok (.invokevirtual 143, 3) := by decide +kernel
theorem d_Mdl_change_300 : decode b_Mdl_change 300 = .ok (.invokevirtual 120, 3) := by decide +kernel
theorem d_Mdl_change_303 : decode b_Mdl_change 303 = .ok (.goto 27, 3) := by decide +kernel
theorem d_Mdl_change_306 : decode b_Mdl_change 306 = .ok (.aload_n 0, 1) := by decide +kernel
theorem d_Mdl_change_307 : decode b_Mdl_change 307 = .ok (.aload_n 0, 1) := by decide +kernel
theorem d_Mdl_change_308 : decode b_Mdl_change 308 = .ok (.iconst 5, 1) := by decide +kernel
theorem d_Mdl_change_309 : decode b_Mdl_change 309 = .ok (.aload_n 0, 1) := by decide +kernel
theorem d_Mdl_change_310 : decode b_Mdl_change 310 = .ok (.invokevirtual 114, 3) := by decide +kernel
theorem d_Mdl_change_313 : decode b_Mdl_change 313 = .ok (.aload_n 0, 1) := by decide +kernel
theorem d_Mdl_change_314 : decode b_Mdl_change 314 = .ok (.bipush 32, 2) := by decide +kernel
theorem d_Mdl_change_316 : decode b_Mdl_change 316 = .ok (.invokevirtual 67, 3) := by decide +kernel
theorem d_Mdl_change_319 : decode b_Mdl_change 319 = .ok (.invokevirtual 143, 3) := by decide +kernel
theorem d_Mdl_change_322 : decode b_Mdl_change 322 = .ok (.invokevirtual 120, 3) := by decide +kernel
theorem d_Mdl_change_325 : decode b_Mdl_change 325 = .ok (.goto 5, 3) := by decide +kernel
theorem d_Mdl_change_328 : decode b_Mdl_change 328 = .ok (.iconst 0, 1) := by decide +kernel
theorem d_Mdl_change_329 : decode b_Mdl_change 329 = .ok (.ireturn, 1) := by decide +kernel
theorem d_Mdl_change_330 : decode b_Mdl_change 330 = .ok (.iconst 1, 1) := by decide +kernel
theorem d_Mdl_change_331 : decode b_Mdl_change 331 = .ok (.ireturn, 1) := by decide +kernel
theorem d_Mdl_findIndex_0 : decode b_Mdl_findIndex 0 = .ok (.iload_n 1, 1) := by decide +kernel
theorem d_Mdl_findIndex_1 : decode b_Mdl_findIndex 1 = .ok (.ifCond .eq 22, 3) := by decide +kernel
theorem d_Mdl_findIndex_4 : decode b_Mdl_findIndex 4 = .ok (.aload_n 0, 1) := by decide +kernel
theorem d_Mdl_findIndex_5 : decode b_Mdl_findIndex 5 = .ok (.aload_n 0, 1) := by decide +kernel
theorem d_Mdl_findIndex_6 : decode b_Mdl_findIndex 6 = .ok (.getfield 102, 3) := by decide +kernel
theorem d_Mdl_findIndex_9 : decode b_Mdl_findIndex 9 = .ok (.bipush 16, 2) := by decide +kernel
theorem d_Mdl_findIndex_11 : decode b_Mdl_findIndex 11 = .ok (.ishl, 1) := by decide +kernel
theorem d_Mdl_findIndex_12 : decode b_Mdl_findIndex 12 = .ok (.aload_n 0, 1) := by decide +kernel
theorem d_Mdl_findIndex_13 : decode b_Mdl_findIndex 13 = .ok (.invokevirtual 64, 3) := by decide +kernel
theorem d_Mdl_findIndex_16 : decode b_Mdl_findIndex 16 = .ok (.iadd, 1) := by decide +kernel
theorem d_Mdl_findIndex_17 : decode b_Mdl_findIndex 17 = .ok (.invokevirtual 105, 3) := by decide +kernel
theorem d_Mdl_findIndex_20 : decode b_Mdl_findIndex 20 = .ok (.goto 8, 3) := by decide +kernel
theorem d_Mdl_findIndex_23 : decode b_Mdl_findIndex 23 = .ok (.aload_n 0, 1) := by decide +kernel
theorem d_Mdl_findIndex_24 : decode b_Mdl_findIndex 24 = .ok (.iconst 0, 1) := by decide +kernel
theorem d_Mdl_findIndex_25 : decode b_Mdl_findIndex 25 = .ok (.invokevirtual 99, 3) := by decide +kernel
theorem d_Mdl_findIndex_28 : decode b_Mdl_findIndex 28 = .ok (.return_, 1) := by decide +kernel
theorem d_Mdl_indexOperand_0 : decode b_Mdl_indexOperand 0 = .ok (.iload_n 1, 1) := by decide +kernel
theorem d_Mdl_indexOperand_1 : decode b_Mdl_indexOperand 1 = .ok (.bipush 15, 2) := by decide +kernel
theorem d_Mdl_indexOperand_3 : decode b_Mdl_indexOperand 3 = .ok (.iand, 1) := by decide +kernel
theorem d_Mdl_indexOperand_4 : decode b_Mdl_indexOperand 4 = .ok (.ifCond .eq 11, 3) := by decide +kernel
theorem d_Mdl_indexOperand_7 : decode b_Mdl_indexOperand 7 = .ok (.iload_n 1, 1) := by decide +kernel
theorem d_Mdl_indexOperand_8 : decode b_Mdl_indexOperand 8 = .ok (.bipush 15, 2) := by decide +kernel
theorem d_Mdl_indexOperand_10 : decode b_Mdl_indexOperand 10 = .ok (.iand, 1) := by decide +kernel
theorem d_Mdl_indexOperand_11 : decode b_Mdl_indexOperand 11 = .ok (.iconst 2, 1) := by decide +kernel
theorem d_Mdl_indexOperand_12 : decode b_Mdl_indexOperand 12 = .ok (.if_icmp .ne 14, 3) := by decide +kernel
theorem d_Mdl_indexOperand_15 : decode b_Mdl_indexOperand 15 = .ok (.aload_n 0, 1) := by decide +kernel
theorem d_Mdl_indexOperand_16 : decode b_Mdl_indexOperand 16 = .ok (.aload_n 0, 1) := by decide +kernel
theorem d_Mdl_indexOperand_17 : decode b_Mdl_indexOperand 17 = .ok (.bipush 16, 2) := by decide +kernel
theorem d_Mdl_indexOperand_19 : decode b_Mdl_indexOperand 19 = .ok (.invokevirtual 67, 3) := by decide +kernel
theorem d_Mdl_indexOperand_22 : decode b_Mdl_indexOperand 22 = .ok (.invokevirtual 129, 3) := by decide +kernel
theorem d_Mdl_indexOperand_25 : decode b_Mdl_indexOperand 25 = .ok (.ireturn, 1) := by decide +kernel
theorem d_Mdl_indexOperand_26 : decode b_Mdl_indexOperand 26 = .ok (.aload_n 0, 1) := by decide +kernel
theorem d_Mdl_indexOperand_27 : decode b_Mdl_indexOperand 27 = .ok (.iload_n 1, 1) := by decide +kernel
theorem d_Mdl_indexOperand_28 : decode b_Mdl_indexOperand 28 = .ok (.bipush 8, 2) := by decide +kernel
theorem d_Mdl_indexOperand_30 : decode b_Mdl_indexOperand 30 = .ok (.iand, 1) := by decide +kernel
theorem d_Mdl_indexOperand_31 : decode b_Mdl_indexOperand 31 = .ok (.ifCond .eq 7, 3) := by decide +kernel
theorem d_Mdl_indexOperand_34 : decode b_Mdl_indexOperand 34 = .ok (.iconst 1, 1) := by decide +kernel
theorem d_Mdl_indexOperand_35 : decode b_Mdl_indexOperand 35 = .ok (.goto 4, 3) := by decide +kernel
theorem d_Mdl_indexOperand_38 : decode b_Mdl_indexOperand 38 = .ok (.iconst 0, 1) := by decide +kernel
theorem d_Mdl_indexOperand_39 : decode b_Mdl_indexOperand 39 = .ok (.invokevirtual 150, 3) := by decide +kernel
theorem d_Mdl_indexOperand_42 : decode b_Mdl_indexOperand 42 = .ok (.aload_n 0, 1) := by decide +kernel
theorem d_Mdl_indexOperand_43 : decode b_Mdl_indexOperand 43 = .ok (.aload_n 0, 1) := by decide +kernel
theorem d_Mdl_indexOperand_44 : decode b_Mdl_indexOperand 44 = .ok (.bipush 16, 2) := by decide +kernel
theorem d_Mdl_indexOperand_46 : decode b_Mdl_indexOperand 46 = .ok (.invokevirtual 67, 3) := by decide +kernel
theorem d_Mdl_indexOperand_49 : decode b_Mdl_indexOperand 49 = .ok (.invokevirtual 133, 3) := by decide +kernel
theorem d_Mdl_indexOperand_52 : decode b_Mdl_indexOperand 52 = .ok (.ireturn, 1) := by decide +kernel
theorem d_Mdl_storeAt_0 : decode b_Mdl_storeAt 0 = .ok (.aload_n 0, 1) := by decide +kernel
theorem d_Mdl_storeAt_1 : decode b_Mdl_storeAt 1 = .ok (.iload_n 1, 1) := by decide +kernel
theorem d_Mdl_storeAt_2 : decode b_Mdl_storeAt 2 = .ok (.invokevirtual 150, 3) := by decide +kernel
theorem d_Mdl_storeAt_5 : decode b_Mdl_storeAt 5 = .ok (.aload_n 0, 1) := by decide +kernel
theorem d_Mdl_storeAt_6 : decode b_Mdl_storeAt 6 = .ok (.iload_n 2, 1) := by decide +kernel
theorem d_Mdl_storeAt_7 : decode b_Mdl_storeAt 7 = .ok (.iload_n 3, 1) := by decide +kernel
theorem d_Mdl_storeAt_8 : decode b_Mdl_storeAt 8 = .ok (.invokevirtual 126, 3) := by decide +kernel
theorem d_Mdl_storeAt_11 : decode b_Mdl_storeAt 11 = .ok (.return_, 1) := by decide +kernel
theorem d_Mdl_index_0 : decode b_Mdl_index 0 = .ok (.aload_n 0, 1) := by decide +kernel
theorem d_Mdl_index_1 : decode b_Mdl_index 1 = .ok (.bipush 16, 2) := by decide +kernel
theorem d_Mdl_index_3 : decode b_Mdl_index 3 = .ok (.invokevirtual 67, 3) := by decide +kernel
theorem d_Mdl_index_6 : decode b_Mdl_index 6 = .ok (.istore_n 2, 1) := by decide +kernel
theorem d_Mdl_index_7 : decode b_Mdl_index 7 = .ok (.iload_n 1, 1) := by decide +kernel
theorem d_Mdl_index_8 : decode b_Mdl_index 8 = .ok (.lookupswitch 378 #[(100, 276), (132, 250), (134, 224), (136, 360), (140, 263), (142, 237), (156, 291), (160, 173), (162, 156), (164, 173), (166, 156), (172, 173), (174, 156), (192, 207), (200, 324), (202, 342), (224, 190), (232, 306)], 156) := by decide +kernel
theorem d_Mdl_index_164 : decode b_Mdl_index 164 = .ok (.aload_n 0, 1) := by decide +kernel
theorem d_Mdl_index_165 : decode b_Mdl_index 165 = .ok (.aload_n 0, 1) := by decide +kernel
theorem d_Mdl_index_166 : decode b_Mdl_index 166 = .ok (.aload_n 0, 1) := by decide +kernel
theorem d_Mdl_index_167 : decode b_Mdl_index 167 = .ok (.iload_n 1, 1) := by decide +kernel
theorem d_Mdl_index_168 : decode b_Mdl_index 168 = .ok (.invokevirtual 154, 3) := by decide +kernel
theorem d_Mdl_index_171 : decode b_Mdl_index 171 = .ok (.iload_n 2, 1) := by decide +kernel
theorem d_Mdl_index_172 : decode b_Mdl_index 172 = .ok (.invokevirtual 117, 3) := by decide +kernel
theorem d_Mdl_index_175 : decode b_Mdl_index 175 = .ok (.putfield 83, 3) := by decide +kernel
theorem d_Mdl_index_178 : decode b_Mdl_index 178 = .ok (.goto 210, 3) := by decide +kernel
theorem d_Mdl_index_181 : decode b_Mdl_index 181 = .ok (.aload_n 0, 1) := by decide +kernel
theorem d_Mdl_index_182 : decode b_Mdl_index 182 = .ok (.aload_n 0, 1) := by decide +kernel
theorem d_Mdl_index_183 : decode b_Mdl_index 183 = .ok (.aload_n 0, 1) := by decide +kernel
theorem d_Mdl_index_184 : decode b_Mdl_index 184 = .ok (.iload_n 1, 1) := by decide +kernel
theorem d_Mdl_index_185 : decode b_Mdl_index 185 = .ok (.invokevirtual 154, 3) := by decide +kernel
theorem d_Mdl_index_188 : decode b_Mdl_index 188 = .ok (.iload_n 2, 1) := by decide +kernel
theorem d_Mdl_index_189 : decode b_Mdl_index 189 = .ok (.invokevirtual 117, 3) := by decide +kernel
theorem d_Mdl_index_192 : decode b_Mdl_index 192 = .ok (.putfield 86, 3) := by decide +kernel
theorem d_Mdl_index_195 : decode b_Mdl_index 195 = .ok (.goto 193, 3) := by decide +kernel
theorem d_Mdl_index_198 : decode b_Mdl_index 198 = .ok (.aload_n 0, 1) := by decide +kernel
theorem d_Mdl_index_199 : decode b_Mdl_index 199 = .ok (.aload_n 0, 1) := by decide +kernel
theorem d_Mdl_index_200 : decode b_Mdl_index 200 = .ok (.getfield 83, 3) := by decide +kernel
theorem d_Mdl_index_203 : decode b_Mdl_index 203 = .ok (.aload_n 0, 1) := by decide +kernel
theorem d_Mdl_index_204 : decode b_Mdl_index 204 = .ok (.iload_n 2, 1) := by decide +kernel
theorem d_Mdl_index_205 : decode b_Mdl_index 205 = .ok (.invokevirtual 129, 3) := by decide +kernel
theorem d_Mdl_index_208 : decode b_Mdl_index 208 = .ok (.iload_n 2, 1) := by decide +kernel
theorem d_Mdl_index_209 : decode b_Mdl_index 209 = .ok (.invokevirtual 139, 3) := by decide +kernel
theorem d_Mdl_index_212 : decode b_Mdl_index 212 = .ok (.goto 176, 3) := by decide +kernel
theorem d_Mdl_index_215 : decode b_Mdl_index 215 = .ok (.aload_n 0, 1) := by decide +kernel
theorem d_Mdl_index_216 : decode b_Mdl_index 216 = .ok (.aload_n 0, 1) := by decide +kernel
theorem d_Mdl_index_217 : decode b_Mdl_index 217 = .ok (.getfield 86, 3) := by decide +kernel
theorem d_Mdl_index_220 : decode b_Mdl_index 220 = .ok (.aload_n 0, 1) := by decide +kernel
theorem d_Mdl_index_221 : decode b_Mdl_index 221 = .ok (.iload_n 2, 1) := by decide +kernel
theorem d_Mdl_index_222 : decode b_Mdl_index 222 = .ok (.invokevirtual 129, 3) := by decide +kernel
theorem d_Mdl_index_225 : decode b_Mdl_index 225 = .ok (.iload_n 2, 1) := by decide +kernel
theorem d_Mdl_index_226 : decode b_Mdl_index 226 = .ok (.invokevirtual 139, 3) := by decide +kernel
theorem d_Mdl_index_229 : decode b_Mdl_index 229 = .ok (.goto 159, 3) := by decide +kernel
theorem d_Mdl_index_232 : decode b_Mdl_index 232 = .ok (.aload_n 0, 1) := by decide +kernel
theorem d_Mdl_index_233 : decode b_Mdl_index 233 = .ok (.iconst 0, 1) := by decide +kernel
theorem d_Mdl_index_234 : decode b_Mdl_index 234 = .ok (.aload_n 0, 1) := by decide +kernel
theorem d_Mdl_index_235 : decode b_Mdl_index 235 = .ok (.getfield 83, 3) := by decide +kernel
theorem d_Mdl_index_238 : decode b_Mdl_index 238 = .ok (.iload_n 2, 1) := by decide +kernel
theorem d_Mdl_index_239 : decode b_Mdl_index 239 = .ok (.invokevirtual 157, 3) := by decide +kernel
theorem d_Mdl_index_242 : decode b_Mdl_index 242 = .ok (.goto 146, 3) := by decide +kernel
theorem d_Mdl_index_245 : decode b_Mdl_index 245 = .ok (.aload_n 0, 1) := by decide +kernel
theorem d_Mdl_index_246 : decode b_Mdl_index 246 = .ok (.iconst 1, 1) := by decide +kernel
theorem d_Mdl_index_247 : decode b_Mdl_index 247 = .ok (.aload_n 0, 1) := by decide +kernel
theorem d_Mdl_index_248 : decode b_Mdl_index 248 = .ok (.getfield 83, 3) := by decide +kernel
theorem d_Mdl_index_251 : decode b_Mdl_index 251 = .ok (.iload_n 2, 1) := by decide +kernel
theorem d_Mdl_index_252 : decode b_Mdl_index 252 = .ok (.invokevirtual 157, 3) := by decide +kernel
theorem d_Mdl_index_255 : decode b_Mdl_index 255 = .ok (.goto 133, 3) := by decide +kernel
theorem d_Mdl_index_258 : decode b_Mdl_index 258 = .ok (.aload_n 0, 1) := by decide +kernel
theorem d_Mdl_index_259 : decode b_Mdl_index 259 = .ok (.iconst 0, 1) := by decide +kernel
theorem d_Mdl_index_260 : decode b_Mdl_index 260 = .ok (.aload_n 0, 1) := by decide +kernel
theorem d_Mdl_index_261 : decode b_Mdl_index 261 = .ok (.getfield 86, 3) := by decide +kernel
theorem d_Mdl_index_264 : decode b_Mdl_index 264 = .ok (.iload_n 2, 1) := by decide +kernel
theorem d_Mdl_index_265 : decode b_Mdl_index 265 = .ok (.invokevirtual 157, 3) := by decide +kernel
theorem d_Mdl_index_268 : decode b_Mdl_index 268 = .ok (.goto 120, 3) := by decide +kernel
theorem d_Mdl_index_271 : decode b_Mdl_index 271 = .ok (.aload_n 0, 1) := by decide +kernel
theorem d_Mdl_index_272 : decode b_Mdl_index 272 = .ok (.iconst 1, 1) := by decide +kernel
theorem d_Mdl_index_273 : decode b_Mdl_index 273 = .ok (.aload_n 0, 1) := by decide +kernel
theorem d_Mdl_index_274 : decode b_Mdl_index 274 = .ok (.getfield 86, 3) := by decide +kernel
theorem d_Mdl_index_277 : decode b_Mdl_index 277 = .ok (.iload_n 2, 1) := by decide +kernel
theorem d_Mdl_index_278 : decode b_Mdl_index 278 = .ok (.invokevirtual 157, 3) := by decide +kernel
theorem d_Mdl_index_281 : decode b_Mdl_index 281 = .ok (.goto 107, 3) := by decide +kernel
theorem d_Mdl_index_284 : decode b_Mdl_index 284 = .ok (.aload_n 0, 1) := by decide +kernel
theorem d_Mdl_index_285 : decode b_Mdl_index 285 = .ok (.iconst 0, 1) := by decide +kernel
theorem d_Mdl_index_286 : decode b_Mdl_index 286 = .ok (.iconst 0, 1) := by decide +kernel
theorem d_Mdl_index_287 : decode b_Mdl_index 287 = .ok (.aload_n 0, 1) := by decide +kernel
theorem d_Mdl_index_288 : decode b_Mdl_index 288 = .ok (.bipush 32, 2) := by decide +kernel
theorem d_Mdl_index_290 : decode b_Mdl_index 290 = .ok (.invokevirtual 67, 3) := by decide +kernel
theorem d_Mdl_index_293 : decode b_Mdl_index 293 = .ok (.invokevirtual 157, 3) := by decide +kernel
theorem d_Mdl_index_296 : decode b_Mdl_index 296 = .ok (.goto 92, 3) := by decide +kernel
theorem d_Mdl_index_299 : decode b_Mdl_index 299 = .ok (.aload_n 0, 1) := by decide +kernel
theorem d_Mdl_index_300 : decode b_Mdl_index 300 = .ok (.iconst 1, 1) := by decide +kernel
theorem d_Mdl_index_301 : decode b_Mdl_index 301 = .ok (.iconst 0, 1) := by decide +kernel
theorem d_Mdl_index_302 : decode b_Mdl_index 302 = .ok (.aload_n 0, 1) := by decide +kernel
theorem d_Mdl_index_303 : decode b_Mdl_index 303 = .ok (.bipush 32, 2) := by decide +kernel
theorem d_Mdl_index_305 : decode b_Mdl_index 305 = .ok (.invokevirtual 67, 3) := by decide +kernel
theorem d_Mdl_index_308 : decode b_Mdl_index 308 = .ok (.invokevirtual 157, 3) := by decide +kernel
theorem d_Mdl_index_311 : decode b_Mdl_index 311 = .ok (.goto 77, 3) := by decide +kernel
theorem d_Mdl_index_314 : decode b_Mdl_index 314 = .ok (.aload_n 0, 1) := by decide +kernel
theorem d_Mdl_index_315 : decode b_Mdl_index 315 = .ok (.aload_n 0, 1) := by decide +kernel
theorem d_Mdl_index_316 : decode b_Mdl_index 316 = .ok (.aload_n 0, 1) := by decide +kernel
theorem d_Mdl_index_317 : decode b_Mdl_index 317 = .ok (.getfield 83, 3) := by decide +kernel
theorem d_Mdl_index_320 : decode b_Mdl_index 320 = .ok (.iconst 1, 1) := by decide +kernel
theorem d_Mdl_index_321 : decode b_Mdl_index 321 = .ok (.iadd, 1) := by decide +kernel
theorem d_Mdl_index_322 : decode b_Mdl_index 322 = .ok (.iload_n 2, 1) := by decide +kernel
theorem d_Mdl_index_323 : decode b_Mdl_index 323 = .ok (.invokevirtual 117, 3) := by decide +kernel
theorem d_Mdl_index_326 : decode b_Mdl_index 326 = .ok (.putfield 83, 3) := by decide +kernel
theorem d_Mdl_index_329 : decode b_Mdl_index 329 = .ok (.goto 59, 3) := by decide +kernel
theorem d_Mdl_index_332 : decode b_Mdl_index 332 = .ok (.aload_n 0, 1) := by decide +kernel
theorem d_Mdl_index_333 : decode b_Mdl_index 333 = .ok (.aload_n 0, 1) := by decide +kernel
theorem d_Mdl_index_334 : decode b_Mdl_index 334 = .ok (.aload_n 0, 1) := by decide +kernel
theorem d_Mdl_index_335 : decode b_Mdl_index 335 = .ok (.getfield 86, 3) := by decide +kernel
theorem d_Mdl_index_338 : decode b_Mdl_index 338 = .ok (.iconst 1, 1) := by decide +kernel
theorem d_Mdl_index_339 : decode b_Mdl_index 339 = .ok (.iadd, 1) := by decide +kernel
theorem d_Mdl_index_340 : decode b_Mdl_index 340 = .ok (.iload_n 2, 1) := by decide +kernel
theorem d_Mdl_index_341 : decode b_Mdl_index 341 = .ok (.invokevirtual 117, 3) := by decide +kernel
theorem d_Mdl_index_344 : decode b_Mdl_index 344 = .ok (.putfield 86, 3) := by decide +kernel
theorem d_Mdl_index_347 : decode b_Mdl_index 347 = .ok (.goto 41, 3) := by decide +kernel
theorem d_Mdl_index_350 : decode b_Mdl_index 350 = .ok (.aload_n 0, 1) := by decide +kernel
theorem d_Mdl_index_351 : decode b_Mdl_index 351 = .ok (.aload_n 0, 1) := by decide +kernel
theorem d_Mdl_index_352 : decode b_Mdl_index 352 = .ok (.aload_n 0, 1) := by decide +kernel
theorem d_Mdl_index_353 : decode b_Mdl_index 353 = .ok (.getfield 83, 3) := by decide +kernel
theorem d_Mdl_index_356 : decode b_Mdl_index 356 = .ok (.iconst 1, 1) := by decide +kernel
theorem d_Mdl_index_357 : decode b_Mdl_index 357 = .ok (.isub, 1) := by decide +kernel
theorem d_Mdl_index_358 : decode b_Mdl_index 358 = .ok (.iload_n 2, 1) := by decide +kernel
theorem d_Mdl_index_359 : decode b_Mdl_index 359 = .ok (.invokevirtual 117, 3) := by decide +kernel
theorem d_Mdl_index_362 : decode b_Mdl_index 362 = .ok (.putfield 83, 3) := by decide +kernel
theorem d_Mdl_index_365 : decode b_Mdl_index 365 = .ok (.goto 23, 3) := by decide +kernel
theorem d_Mdl_index_368 : decode b_Mdl_index 368 = .ok (.aload_n 0, 1) := by decide +kernel
theorem d_Mdl_index_369 : decode b_Mdl_index 369 = .ok (.aload_n 0, 1) := by decide +kernel
theorem d_Mdl_index_370 : decode b_Mdl_index 370 = .ok (.aload_n 0, 1) := by decide +kernel
theorem d_Mdl_index_371 : decode b_Mdl_index 371 = .ok (.getfield 86, 3) := by decide +kernel
theorem d_Mdl_index_374 : decode b_Mdl_index 374 = .ok (.iconst 1, 1) := by decide +kernel
theorem d_Mdl_index_375 : decode b_Mdl_index 375 = .ok (.isub, 1) := by decide +kernel
theorem d_Mdl_index_376 : decode b_Mdl_index 376 = .ok (.iload_n 2, 1) := by decide +kernel
theorem d_Mdl_index_377 : decode b_Mdl_index 377 = .ok (.invokevirtual 117, 3) := by decide +kernel
theorem d_Mdl_index_380 : decode b_Mdl_index 380 = .ok (.putfield 86, 3) := by decide +kernel
theorem d_Mdl_index_383 : decode b_Mdl_index 383 = .ok (.goto 5, 3) := by decide +kernel
theorem d_Mdl_index_386 : decode b_Mdl_index 386 = .ok (.iconst 0, 1) := by decide +kernel
theorem d_Mdl_index_387 : decode b_Mdl_index 387 = .ok (.ireturn, 1) := by decide +kernel
theorem d_Mdl_index_388 : decode b_Mdl_index 388 = .ok (.iconst 1, 1) := by decide +kernel
theorem d_Mdl_index_389 : decode b_Mdl_index 389 = .ok (.ireturn, 1) := by decide +kernel
theorem d_Mdl_transfer_0 : decode b_Mdl_transfer 0 = .ok (.aload_n 0, 1) := by decide +kernel
theorem d_Mdl_transfer_1 : decode b_Mdl_transfer 1 = .ok (.bipush 16, 2) := by decide +kernel
theorem d_Mdl_transfer_3 : decode b_Mdl_transfer 3 = .ok (.invokevirtual 67, 3) := by decide +kernel
theorem d_Mdl_transfer_6 : decode b_Mdl_transfer 6 = .ok (.istore_n 2, 1) := by decide +kernel
theorem d_Mdl_transfer_7 : decode b_Mdl_transfer 7 = .ok (.iload_n 1, 1) := by decide +kernel
theorem d_Mdl_transfer_8 : decode b_Mdl_transfer 8 = .ok (.lookupswitch 344 #[(27, 297), (59, 270), (91, 238), (123, 254), (138, 196), (152, 217), (154, 286), (155, 164), (168, 132), (170, 116), (186, 148), (187, 180), (235, 308)], 116) := by decide +kernel
theorem d_Mdl_transfer_124 : decode b_Mdl_transfer 124 = .ok (.aload_n 0, 1) := by decide +kernel
theorem d_Mdl_transfer_125 : decode b_Mdl_transfer 125 = .ok (.aload_n 0, 1) := by decide +kernel
theorem d_Mdl_transfer_126 : decode b_Mdl_transfer 126 = .ok (.aload_n 0, 1) := by decide +kernel
theorem d_Mdl_transfer_127 : decode b_Mdl_transfer 127 = .ok (.getfield 71, 3) := by decide +kernel
theorem d_Mdl_transfer_130 : decode b_Mdl_transfer 130 = .ok (.iload_n 2, 1) := by decide +kernel
theorem d_Mdl_transfer_131 : decode b_Mdl_transfer 131 = .ok (.invokevirtual 117, 3) := by decide +kernel
theorem d_Mdl_transfer_134 : decode b_Mdl_transfer 134 = .ok (.putfield 83, 3) := by decide +kernel
theorem d_Mdl_transfer_137 : decode b_Mdl_transfer 137 = .ok (.goto 217, 3) := by decide +kernel
theorem d_Mdl_transfer_140 : decode b_Mdl_transfer 140 = .ok (.aload_n 0, 1) := by decide +kernel
theorem d_Mdl_transfer_141 : decode b_Mdl_transfer 141 = .ok (.aload_n 0, 1) := by decide +kernel
theorem d_Mdl_transfer_142 : decode b_Mdl_transfer 142 = .ok (.aload_n 0, 1) := by decide +kernel
theorem d_Mdl_transfer_143 : decode b_Mdl_transfer 143 = .ok (.getfield 71, 3) := by decide +kernel
theorem d_Mdl_transfer_146 : decode b_Mdl_transfer 146 = .ok (.iload_n 2, 1) := by decide +kernel
theorem d_Mdl_transfer_147 : decode b_Mdl_transfer 147 = .ok (.invokevirtual 117, 3) := by decide +kernel
theorem d_Mdl_transfer_150 : decode b_Mdl_transfer 150 = .ok (.putfield 86, 3) := by decide +kernel
theorem d_Mdl_transfer_153 : decode b_Mdl_transfer 153 = .ok (.goto 201, 3) := by decide +kernel
theorem d_Mdl_transfer_156 : decode b_Mdl_transfer 156 = .ok (.aload_n 0, 1) := by decide +kernel
theorem d_Mdl_transfer_157 : decode b_Mdl_transfer 157 = .ok (.aload_n 0, 1) := by decide +kernel
theorem d_Mdl_transfer_158 : decode b_Mdl_transfer 158 = .ok (.aload_n 0, 1) := by decide +kernel
theorem d_Mdl_transfer_159 : decode b_Mdl_transfer 159 = .ok (.getfield 13, 3) := by decide +kernel
theorem d_Mdl_transfer_162 : decode b_Mdl_transfer 162 = .ok (.iload_n 2, 1) := by decide +kernel
theorem d_Mdl_transfer_163 : decode b_Mdl_transfer 163 = .ok (.invokevirtual 117, 3) := by decide +kernel
theorem d_Mdl_transfer_166 : decode b_Mdl_transfer 166 = .ok (.putfield 83, 3) := by decide +kernel
theorem d_Mdl_transfer_169 : decode b_Mdl_transfer 169 = .ok (.goto 185, 3) := by decide +kernel
theorem d_Mdl_transfer_172 : decode b_Mdl_transfer 172 = .ok (.aload_n 0, 1) := by decide +kernel
theorem d_Mdl_transfer_173 : decode b_Mdl_transfer 173 = .ok (.aload_n 0, 1) := by decide +kernel
theorem d_Mdl_transfer_174 : decode b_Mdl_transfer 174 = .ok (.aload_n 0, 1) := by decide +kernel
theorem d_Mdl_transfer_175 : decode b_Mdl_transfer 175 = .ok (.getfield 83, 3) := by decide +kernel
theorem d_Mdl_transfer_178 : decode b_Mdl_transfer 178 = .ok (.iload_n 2, 1) := by decide +kernel
theorem d_Mdl_transfer_179 : decode b_Mdl_transfer 179 = .ok (.invokevirtual 117, 3) := by decide +kernel
theorem d_Mdl_transfer_182 : decode b_Mdl_transfer 182 = .ok (.putfield 86, 3) := by decide +kernel
theorem d_Mdl_transfer_185 : decode b_Mdl_transfer 185 = .ok (.goto 169, 3) := by decide +kernel
theorem d_Mdl_transfer_188 : decode b_Mdl_transfer 188 = .ok (.aload_n 0, 1) := by decide +kernel
theorem d_Mdl_transfer_189 : decode b_Mdl_transfer 189 = .ok (.aload_n 0, 1) := by decide +kernel
theorem d_Mdl_transfer_190 : decode b_Mdl_transfer 190 = .ok (.aload_n 0, 1) := by decide +kernel
theorem d_Mdl_transfer_191 : decode b_Mdl_transfer 191 = .ok (.getfield 86, 3) := by decide +kernel
theorem d_Mdl_transfer_194 : decode b_Mdl_transfer 194 = .ok (.iload_n 2, 1) := by decide +kernel
theorem d_Mdl_transfer_195 : decode b_Mdl_transfer 195 = .ok (.invokevirtual 117, 3) := by decide +kernel
theorem d_Mdl_transfer_198 : decode b_Mdl_transfer 198 = .ok (.putfield 83, 3) := by decide +kernel
theorem d_Mdl_transfer_201 : decode b_Mdl_transfer 201 = .ok (.goto 153, 3) := by decide +kernel
theorem d_Mdl_transfer_204 : decode b_Mdl_transfer 204 = .ok (.aload_n 0, 1) := by decide +kernel
theorem d_Mdl_transfer_205 : decode b_Mdl_transfer 205 = .ok (.aload_n 0, 1) := by decide +kernel
theorem d_Mdl_transfer_206 : decode b_Mdl_transfer 206 = .ok (.aload_n 0, 1) := by decide +kernel
theorem d_Mdl_transfer_207 : decode b_Mdl_transfer 207 = .ok (.getfield 83, 3) := by decide +kernel
theorem d_Mdl_transfer_210 : decode b_Mdl_transfer 210 = .ok (.aload_n 0, 1) := by decide +kernel
theorem d_Mdl_transfer_211 : decode b_Mdl_transfer 211 = .ok (.bipush 32, 2) := by decide +kernel
theorem d_Mdl_transfer_213 : decode b_Mdl_transfer 213 = .ok (.invokevirtual 67, 3) := by decide +kernel
theorem d_Mdl_transfer_216 : decode b_Mdl_transfer 216 = .ok (.invokevirtual 117, 3) := by decide +kernel
theorem d_Mdl_transfer_219 : decode b_Mdl_transfer 219 = .ok (.invokevirtual 120, 3) := by decide +kernel
theorem d_Mdl_transfer_222 : decode b_Mdl_transfer 222 = .ok (.goto 132, 3) := by decide +kernel
theorem d_Mdl_transfer_225 : decode b_Mdl_transfer 225 = .ok (.aload_n 0, 1) := by decide +kernel
theorem d_Mdl_transfer_226 : decode b_Mdl_transfer 226 = .ok (.aload_n 0, 1) := by decide +kernel
theorem d_Mdl_transfer_227 : decode b_Mdl_transfer 227 = .ok (.aload_n 0, 1) := by decide +kernel
theorem d_Mdl_transfer_228 : decode b_Mdl_transfer 228 = .ok (.getfield 86, 3) := by decide +kernel
theorem d_Mdl_transfer_231 : decode b_Mdl_transfer 231 = .ok (.aload_n 0, 1) := by decide +kernel
theorem d_Mdl_transfer_232 : decode b_Mdl_transfer 232 = .ok (.bipush 32, 2) := by decide +kernel
theorem d_Mdl_transfer_234 : decode b_Mdl_transfer 234 = .ok (.invokevirtual 67, 3) := by decide +kernel
theorem d_Mdl_transfer_237 : decode b_Mdl_transfer 237 = .ok (.invokevirtual 117, 3) := by decide +kernel
theorem d_Mdl_transfer_240 : decode b_Mdl_transfer 240 = .ok (.invokevirtual 120, 3) := by decide +kernel
theorem d_Mdl_transfer_243 : decode b_Mdl_transfer 243 = .ok (.goto 111, 3) := by decide +kernel
theorem d_Mdl_transfer_246 : decode b_Mdl_transfer 246 = .ok (.aload_n 0, 1) := by decide +kernel
theorem d_Mdl_transfer_247 : decode b_Mdl_transfer 247 = .ok (.aload_n 0, 1) := by decide +kernel
theorem d_Mdl_transfer_248 : decode b_Mdl_transfer 248 = .ok (.aload_n 0, 1) := by decide +kernel
theorem d_Mdl_transfer_249 : decode b_Mdl_transfer 249 = .ok (.getfield 71, 3) := by decide +kernel
theorem d_Mdl_transfer_252 : decode b_Mdl_transfer 252 = .ok (.iconst 0, 1) := by decide +kernel
theorem d_Mdl_transfer_253 : decode b_Mdl_transfer 253 = .ok (.invokevirtual 117, 3) := by decide +kernel
theorem d_Mdl_transfer_256 : decode b_Mdl_transfer 256 = .ok (.putfield 89, 3) := by decide +kernel
theorem d_Mdl_transfer_259 : decode b_Mdl_transfer 259 = .ok (.goto 95, 3) := by decide +kernel
theorem d_Mdl_transfer_262 : decode b_Mdl_transfer 262 = .ok (.aload_n 0, 1) := by decide +kernel
theorem d_Mdl_transfer_263 : decode b_Mdl_transfer 263 = .ok (.aload_n 0, 1) := by decide +kernel
theorem d_Mdl_transfer_264 : decode b_Mdl_transfer 264 = .ok (.aload_n 0, 1) := by decide +kernel
theorem d_Mdl_transfer_265 : decode b_Mdl_transfer 265 = .ok (.getfield 89, 3) := by decide +kernel
theorem d_Mdl_transfer_268 : decode b_Mdl_transfer 268 = .ok (.iconst 0, 1) := by decide +kernel
theorem d_Mdl_transfer_269 : decode b_Mdl_transfer 269 = .ok (.invokevirtual 117, 3) := by decide +kernel
theorem d_Mdl_transfer_272 : decode b_Mdl_transfer 272 = .ok (.putfield 71, 3) := by decide +kernel
theorem d_Mdl_transfer_275 : decode b_Mdl_transfer 275 = .ok (.goto 79, 3) := by decide +kernel
theorem d_Mdl_transfer_278 : decode b_Mdl_transfer 278 = .ok (.aload_n 0, 1) := by decide +kernel
theorem d_Mdl_transfer_279 : decode b_Mdl_transfer 279 = .ok (.aload_n 0, 1) := by decide +kernel
theorem d_Mdl_transfer_280 : decode b_Mdl_transfer 280 = .ok (.aload_n 0, 1) := by decide +kernel
theorem d_Mdl_transfer_281 : decode b_Mdl_transfer 281 = .ok (.getfield 13, 3) := by decide +kernel
theorem d_Mdl_transfer_284 : decode b_Mdl_transfer 284 = .ok (.iconst 0, 1) := by decide +kernel
theorem d_Mdl_transfer_285 : decode b_Mdl_transfer 285 = .ok (.invokevirtual 117, 3) := by decide +kernel
theorem d_Mdl_transfer_288 : decode b_Mdl_transfer 288 = .ok (.putfield 71, 3) := by decide +kernel
theorem d_Mdl_transfer_291 : decode b_Mdl_transfer 291 = .ok (.goto 63, 3) := by decide +kernel
theorem d_Mdl_transfer_294 : decode b_Mdl_transfer 294 = .ok (.aload_n 0, 1) := by decide +kernel
theorem d_Mdl_transfer_295 : decode b_Mdl_transfer 295 = .ok (.aload_n 0, 1) := by decide +kernel
theorem d_Mdl_transfer_296 : decode b_Mdl_transfer 296 = .ok (.getfield 83, 3) := by decide +kernel
theorem d_Mdl_transfer_299 : decode b_Mdl_transfer 299 = .ok (.putfield 13, 3) := by decide +kernel
theorem d_Mdl_transfer_302 : decode b_Mdl_transfer 302 = .ok (.goto 52, 3) := by decide +kernel
theorem d_Mdl_transfer_305 : decode b_Mdl_transfer 305 = .ok (.aload_n 0, 1) := by decide +kernel
theorem d_Mdl_transfer_306 : decode b_Mdl_transfer 306 = .ok (.aload_n 0, 1) := by decide +kernel
theorem d_Mdl_transfer_307 : decode b_Mdl_transfer 307 = .ok (.getfield 71, 3) := by decide +kernel
theorem d_Mdl_transfer_310 : decode b_Mdl_transfer 310 = .ok (.putfield 13, 3) := by decide +kernel
theorem d_Mdl_transfer_313 : decode b_Mdl_transfer 313 = .ok (.goto 41, 3) := by decide +kernel
theorem d_Mdl_transfer_316 : decode b_Mdl_transfer 316 = .ok (.aload_n 0, 1) := by decide +kernel
theorem d_Mdl_transfer_317 : decode b_Mdl_transfer 317 = .ok (.aload_n 0, 1) := by decide +kernel
theorem d_Mdl_transfer_318 : decode b_Mdl_transfer 318 = .ok (.getfield 71, 3) := by decide +kernel
theorem d_Mdl_transfer_321 : decode b_Mdl_transfer 321 = .ok (.bipush 8, 2) := by decide +kernel
theorem d_Mdl_transfer_323 : decode b_Mdl_transfer 323 = .ok (.ishr, 1) := by decide +kernel
theorem d_Mdl_transfer_324 : decode b_Mdl_transfer 324 = .ok (.aload_n 0, 1) := by decide +kernel
theorem d_Mdl_transfer_325 : decode b_Mdl_transfer 325 = .ok (.getfield 71, 3) := by decide +kernel
theorem d_Mdl_transfer_328 : decode b_Mdl_transfer 328 = .ok (.sipush 255, 3) := by decide +kernel
theorem d_Mdl_transfer_331 : decode b_Mdl_transfer 331 = .ok (.iand, 1) := by decide +kernel
theorem d_Mdl_transfer_332 : decode b_Mdl_transfer 332 = .ok (.bipush 8, 2) := by decide +kernel
theorem d_Mdl_transfer_334 : decode b_Mdl_transfer 334 = .ok (.ishl, 1) := by decide +kernel
theorem d_Mdl_transfer_335 : decode b_Mdl_transfer 335 = .ok (.ior, 1) := by decide +kernel
theorem d_Mdl_transfer_336 : decode b_Mdl_transfer 336 = .ok (.putfield 71, 3) := by decide +kernel
theorem d_Mdl_transfer_339 : decode b_Mdl_transfer 339 = .ok (.aload_n 0, 1) := by decide +kernel
theorem d_Mdl_transfer_340 : decode b_Mdl_transfer 340 = .ok (.aload_n 0, 1) := by decide +kernel
theorem d_Mdl_transfer_341 : decode b_Mdl_transfer 341 = .ok (.getfield 71, 3) := by decide +kernel
theorem d_Mdl_transfer_344 : decode b_Mdl_transfer 344 = .ok (.iconst 1, 1) := by decide +kernel
theorem d_Mdl_transfer_345 : decode b_Mdl_transfer 345 = .ok (.invokevirtual 117, 3) := by decide +kernel
theorem d_Mdl_transfer_348 : decode b_Mdl_transfer 348 = .ok (.istore_n 3, 1) := by decide +kernel
theorem d_Mdl_transfer_349 : decode b_Mdl_transfer 349 = .ok (.goto 5, 3) := by decide +kernel
theorem d_Mdl_transfer_352 : decode b_Mdl_transfer 352 = .ok (.iconst 0, 1) := by decide +kernel
theorem d_Mdl_transfer_353 : decode b_Mdl_transfer 353 = .ok (.ireturn, 1) := by decide +kernel
theorem d_Mdl_transfer_354 : decode b_Mdl_transfer 354 = .ok (.iconst 1, 1) := by decide +kernel
theorem d_Mdl_transfer_355 : decode b_Mdl_transfer 355 = .ok (.ireturn, 1) := by decide +kernel
theorem d_Mdl_pushOf_0 : decode b_Mdl_pushOf 0 = .ok (.iload_n 2, 1) := by decide +kernel
theorem d_Mdl_pushOf_1 : decode b_Mdl_pushOf 1 = .ok (.ifCond .eq 11, 3) := by decide +kernel
theorem d_Mdl_pushOf_4 : decode b_Mdl_pushOf 4 = .ok (.aload_n 0, 1) := by decide +kernel
theorem d_Mdl_pushOf_5 : decode b_Mdl_pushOf 5 = .ok (.iload_n 1, 1) := by decide +kernel
theorem d_Mdl_pushOf_6 : decode b_Mdl_pushOf 6 = .ok (.invokevirtual 48, 3) := by decide +kernel
theorem d_Mdl_pushOf_9 : decode b_Mdl_pushOf 9 = .ok (.goto 8, 3) := by decide +kernel
theorem d_Mdl_pushOf_12 : decode b_Mdl_pushOf 12 = .ok (.aload_n 0, 1) := by decide +kernel
theorem d_Mdl_pushOf_13 : decode b_Mdl_pushOf 13 = .ok (.iload_n 1, 1) := by decide +kernel
theorem d_Mdl_pushOf_14 : decode b_Mdl_pushOf 14 = .ok (.invokevirtual 161, 3) := by decide +kernel
theorem d_Mdl_pushOf_17 : decode b_Mdl_pushOf 17 = .ok (.return_, 1) := by decide +kernel
theorem d_Mdl_pullOf_0 : decode b_Mdl_pullOf 0 = .ok (.aload_n 0, 1) := by decide +kernel
theorem d_Mdl_pullOf_1 : decode b_Mdl_pullOf 1 = .ok (.iload_n 1, 1) := by decide +kernel
theorem d_Mdl_pullOf_2 : decode b_Mdl_pullOf 2 = .ok (.ifCond .eq 10, 3) := by decide +kernel
theorem d_Mdl_pullOf_5 : decode b_Mdl_pullOf 5 = .ok (.aload_n 0, 1) := by decide +kernel
theorem d_Mdl_pullOf_6 : decode b_Mdl_pullOf 6 = .ok (.invokevirtual 51, 3) := by decide +kernel
theorem d_Mdl_pullOf_9 : decode b_Mdl_pullOf 9 = .ok (.goto 7, 3) := by decide +kernel
theorem d_Mdl_pullOf_12 : decode b_Mdl_pullOf 12 = .ok (.aload_n 0, 1) := by decide +kernel
theorem d_Mdl_pullOf_13 : decode b_Mdl_pullOf 13 = .ok (.invokevirtual 164, 3) := by decide +kernel
theorem d_Mdl_pullOf_16 : decode b_Mdl_pullOf 16 = .ok (.iload_n 1, 1) := by decide +kernel
theorem d_Mdl_pullOf_17 : decode b_Mdl_pullOf 17 = .ok (.invokevirtual 117, 3) := by decide +kernel
theorem d_Mdl_pullOf_20 : decode b_Mdl_pullOf 20 = .ok (.ireturn, 1) := by decide +kernel
theorem d_Mdl_stack_0 : decode b_Mdl_stack 0 = .ok (.iload_n 1, 1) := by decide +kernel
theorem d_Mdl_stack_1 : decode b_Mdl_stack 1 = .ok (.lookupswitch 315 #[(8, 174), (11, 207), (40, 304), (43, 280), (72, 123), (75, 196), (90, 157), (104, 229), (122, 263), (139, 185), (171, 292), (218, 140), (244, 218), (250, 246)], 123) := by decide +kernel
theorem d_Mdl_stack_124 : decode b_Mdl_stack 124 = .ok (.aload_n 0, 1) := by decide +kernel
theorem d_Mdl_stack_125 : decode b_Mdl_stack 125 = .ok (.aload_n 0, 1) := by decide +kernel
theorem d_Mdl_stack_126 : decode b_Mdl_stack 126 = .ok (.invokevirtual 114, 3) := by decide +kernel
theorem d_Mdl_stack_129 : decode b_Mdl_stack 129 = .ok (.aload_n 0, 1) := by decide +kernel
theorem d_Mdl_stack_130 : decode b_Mdl_stack 130 = .ok (.bipush 32, 2) := by decide +kernel
theorem d_Mdl_stack_132 : decode b_Mdl_stack 132 = .ok (.invokevirtual 67, 3) := by decide +kernel
theorem d_Mdl_stack_135 : decode b_Mdl_stack 135 = .ok (.invokevirtual 167, 3) := by decide +kernel
theorem d_Mdl_stack_138 : decode b_Mdl_stack 138 = .ok (.goto 180, 3) := by decide +kernel
theorem d_Mdl_stack_141 : decode b_Mdl_stack 141 = .ok (.aload_n 0, 1) := by decide +kernel
theorem d_Mdl_stack_142 : decode b_Mdl_stack 142 = .ok (.aload_n 0, 1) := by decide +kernel
theorem d_Mdl_stack_143 : decode b_Mdl_stack 143 = .ok (.getfield 83, 3) := by decide +kernel
theorem d_Mdl_stack_146 : decode b_Mdl_stack 146 = .ok (.aload_n 0, 1) := by decide +kernel
theorem d_Mdl_stack_147 : decode b_Mdl_stack 147 = .ok (.bipush 16, 2) := by decide +kernel
theorem d_Mdl_stack_149 : decode b_Mdl_stack 149 = .ok (.invokevirtual 67, 3) := by decide +kernel
theorem d_Mdl_stack_152 : decode b_Mdl_stack 152 = .ok (.invokevirtual 167, 3) := by decide +kernel
theorem d_Mdl_stack_155 : decode b_Mdl_stack 155 = .ok (.goto 163, 3) := by decide +kernel
theorem d_Mdl_stack_158 : decode b_Mdl_stack 158 = .ok (.aload_n 0, 1) := by decide +kernel
theorem d_Mdl_stack_159 : decode b_Mdl_stack 159 = .ok (.aload_n 0, 1) := by decide +kernel
theorem d_Mdl_stack_160 : decode b_Mdl_stack 160 = .ok (.getfield 86, 3) := by decide +kernel
theorem d_Mdl_stack_163 : decode b_Mdl_stack 163 = .ok (.aload_n 0, 1) := by decide +kernel
theorem d_Mdl_stack_164 : decode b_Mdl_stack 164 = .ok (.bipush 16, 2) := by decide +kernel
theorem d_Mdl_stack_166 : decode b_Mdl_stack 166 = .ok (.invokevirtual 67, 3) := by decide +kernel
theorem d_Mdl_stack_169 : decode b_Mdl_stack 169 = .ok (.invokevirtual 167, 3) := by decide +kernel
theorem d_Mdl_stack_172 : decode b_Mdl_stack 172 = .ok (.goto 146, 3) := by decide +kernel
theorem d_Mdl_stack_175 : decode b_Mdl_stack 175 = .ok (.aload_n 0, 1) := by decide +kernel
theorem d_Mdl_stack_176 : decode b_Mdl_stack 176 = .ok (.aload_n 0, 1) := by decide +kernel
theorem d_Mdl_stack_177 : decode b_Mdl_stack 177 = .ok (.getfield 17, 3) := by decide +kernel
theorem d_Mdl_stack_180 : decode b_Mdl_stack 180 = .ok (.invokevirtual 48, 3) := by decide +kernel
theorem d_Mdl_stack_183 : decode b_Mdl_stack 183 = .ok (.goto 135, 3) := by decide +kernel
theorem d_Mdl_stack_186 : decode b_Mdl_stack 186 = .ok (.aload_n 0, 1) := by decide +kernel
theorem d_Mdl_stack_187 : decode b_Mdl_stack 187 = .ok (.aload_n 0, 1) := by decide +kernel
theorem d_Mdl_stack_188 : decode b_Mdl_stack 188 = .ok (.getfield 102, 3) := by decide +kernel
theorem d_Mdl_stack_191 : decode b_Mdl_stack 191 = .ok (.invokevirtual 48, 3) := by decide +kernel
theorem d_Mdl_stack_194 : decode b_Mdl_stack 194 = .ok (.goto 124, 3) := by decide +kernel
theorem d_Mdl_stack_197 : decode b_Mdl_stack 197 = .ok (.aload_n 0, 1) := by decide +kernel
theorem d_Mdl_stack_198 : decode b_Mdl_stack 198 = .ok (.aload_n 0, 1) := by decide +kernel
theorem d_Mdl_stack_199 : decode b_Mdl_stack 199 = .ok (.getfield 55, 3) := by decide +kernel
theorem d_Mdl_stack_202 : decode b_Mdl_stack 202 = .ok (.invokevirtual 48, 3) := by decide +kernel
theorem d_Mdl_stack_205 : decode b_Mdl_stack 205 = .ok (.goto 113, 3) := by decide +kernel
theorem d_Mdl_stack_208 : decode b_Mdl_stack 208 = .ok (.aload_n 0, 1) := by decide +kernel
theorem d_Mdl_stack_209 : decode b_Mdl_stack 209 = .ok (.aload_n 0, 1) := by decide +kernel
theorem d_Mdl_stack_210 : decode b_Mdl_stack 210 = .ok (.getfield 89, 3) := by decide +kernel
theorem d_Mdl_stack_213 : decode b_Mdl_stack 213 = .ok (.invokevirtual 161, 3) := by decide +kernel
theorem d_Mdl_stack_216 : decode b_Mdl_stack 216 = .ok (.goto 102, 3) := by decide +kernel
theorem d_Mdl_stack_219 : decode b_Mdl_stack 219 = .ok (.aload_n 0, 1) := by decide +kernel
theorem d_Mdl_stack_220 : decode b_Mdl_stack 220 = .ok (.aload_n 0, 1) := by decide +kernel
theorem d_Mdl_stack_221 : decode b_Mdl_stack 221 = .ok (.invokevirtual 64, 3) := by decide +kernel
theorem d_Mdl_stack_224 : decode b_Mdl_stack 224 = .ok (.invokevirtual 161, 3) := by decide +kernel
theorem d_Mdl_stack_227 : decode b_Mdl_stack 227 = .ok (.goto 91, 3) := by decide +kernel
theorem d_Mdl_stack_230 : decode b_Mdl_stack 230 = .ok (.aload_n 0, 1) := by decide +kernel
theorem d_Mdl_stack_231 : decode b_Mdl_stack 231 = .ok (.aload_n 0, 1) := by decide +kernel
theorem d_Mdl_stack_232 : decode b_Mdl_stack 232 = .ok (.aload_n 0, 1) := by decide +kernel
theorem d_Mdl_stack_233 : decode b_Mdl_stack 233 = .ok (.bipush 32, 2) := by decide +kernel
theorem d_Mdl_stack_235 : decode b_Mdl_stack 235 = .ok (.invokevirtual 67, 3) := by decide +kernel
theorem d_Mdl_stack_238 : decode b_Mdl_stack 238 = .ok (.invokevirtual 170, 3) := by decide +kernel
theorem d_Mdl_stack_241 : decode b_Mdl_stack 241 = .ok (.invokevirtual 120, 3) := by decide +kernel
theorem d_Mdl_stack_244 : decode b_Mdl_stack 244 = .ok (.goto 74, 3) := by decide +kernel
theorem d_Mdl_stack_247 : decode b_Mdl_stack 247 = .ok (.aload_n 0, 1) := by decide +kernel
theorem d_Mdl_stack_248 : decode b_Mdl_stack 248 = .ok (.aload_n 0, 1) := by decide +kernel
theorem d_Mdl_stack_249 : decode b_Mdl_stack 249 = .ok (.aload_n 0, 1) := by decide +kernel
theorem d_Mdl_stack_250 : decode b_Mdl_stack 250 = .ok (.bipush 16, 2) := by decide +kernel
theorem d_Mdl_stack_252 : decode b_Mdl_stack 252 = .ok (.invokevirtual 67, 3) := by decide +kernel
theorem d_Mdl_stack_255 : decode b_Mdl_stack 255 = .ok (.invokevirtual 170, 3) := by decide +kernel
theorem d_Mdl_stack_258 : decode b_Mdl_stack 258 = .ok (.putfield 83, 3) := by decide +kernel
theorem d_Mdl_stack_261 : decode b_Mdl_stack 261 = .ok (.goto 57, 3) := by decide +kernel
theorem d_Mdl_stack_264 : decode b_Mdl_stack 264 = .ok (.aload_n 0, 1) := by decide +kernel
theorem d_Mdl_stack_265 : decode b_Mdl_stack 265 = .ok (.aload_n 0, 1) := by decide +kernel
theorem d_Mdl_stack_266 : decode b_Mdl_stack 266 = .ok (.aload_n 0, 1) := by decide +kernel
theorem d_Mdl_stack_267 : decode b_Mdl_stack 267 = .ok (.bipush 16, 2) := by decide +kernel
theorem d_Mdl_stack_269 : decode b_Mdl_stack 269 = .ok (.invokevirtual 67, 3) := by decide +kernel
theorem d_Mdl_stack_272 : decode b_Mdl_stack 272 = .ok (.invokevirtual 170, 3) := by decide +kernel
theorem d_Mdl_stack_275 : decode b_Mdl_stack 275 = .ok (.putfield 86, 3) := by decide +kernel
theorem d_Mdl_stack_278 : decode b_Mdl_stack 278 = .ok (.goto 40, 3) := by decide +kernel
theorem d_Mdl_stack_281 : decode b_Mdl_stack 281 = .ok (.aload_n 0, 1) := by decide +kernel
