theorem d_Wc_init_0 : decode b_Wc_init 0 = .ok (.aload_n 0, 1) := by decide +kernel
theorem d_Wc_init_1 : decode b_Wc_init 1 = .ok (.invokespecial 1, 3) := by decide +kernel
theorem d_Wc_init_4 : decode b_Wc_init 4 = .ok (.aload_n 0, 1) := by decide +kernel
theorem d_Wc_init_5 : decode b_Wc_init 5 = .ok (.new 7, 3) := by decide +kernel
theorem d_Wc_init_8 : decode b_Wc_init 8 = .ok (.dup, 1) := by decide +kernel
theorem d_Wc_init_9 : decode b_Wc_init 9 = .ok (.invokespecial 9, 3) := by decide +kernel
theorem d_Wc_init_12 : decode b_Wc_init 12 = .ok (.putfield 10, 3) := by decide +kernel
theorem d_Wc_init_15 : decode b_Wc_init 15 = .ok (.aload_n 0, 1) := by decide +kernel
theorem d_Wc_init_16 : decode b_Wc_init 16 = .ok (.new 16, 3) := by decide +kernel
theorem d_Wc_init_19 : decode b_Wc_init 19 = .ok (.dup, 1) := by decide +kernel
theorem d_Wc_init_20 : decode b_Wc_init 20 = .ok (.invokespecial 18, 3) := by decide +kernel
theorem d_Wc_init_23 : decode b_Wc_init 23 = .ok (.putfield 19, 3) := by decide +kernel
theorem d_Wc_init_26 : decode b_Wc_init 26 = .ok (.aload_n 0, 1) := by decide +kernel
theorem d_Wc_init_27 : decode b_Wc_init 27 = .ok (.new 23, 3) := by decide +kernel
theorem d_Wc_init_30 : decode b_Wc_init 30 = .ok (.dup, 1) := by decide +kernel
theorem d_Wc_init_31 : decode b_Wc_init 31 = .ok (.aload_n 0, 1) := by decide +kernel
theorem d_Wc_init_32 : decode b_Wc_init 32 = .ok (.getfield 10, 3) := by decide +kernel
theorem d_Wc_init_35 : decode b_Wc_init 35 = .ok (.aload_n 0, 1) := by decide +kernel
theorem d_Wc_init_36 : decode b_Wc_init 36 = .ok (.getfield 19, 3) := by decide +kernel
theorem d_Wc_init_39 : decode b_Wc_init 39 = .ok (.invokespecial 25, 3) := by decide +kernel
theorem d_Wc_init_42 : decode b_Wc_init 42 = .ok (.putfield 28, 3) := by decide +kernel
theorem d_Wc_init_45 : decode b_Wc_init 45 = .ok (.return_, 1) := by decide +kernel
theorem d_Wc_poke_0 : decode b_Wc_poke 0 = .ok (.iload_n 3, 1) := by decide +kernel
theorem d_Wc_poke_1 : decode b_Wc_poke 1 = .ok (.iconst 1, 1) := by decide +kernel
theorem d_Wc_poke_2 : decode b_Wc_poke 2 = .ok (.if_icmp .lt 21, 3) := by decide +kernel
theorem d_Wc_poke_5 : decode b_Wc_poke 5 = .ok (.iload_n 3, 1) := by decide +kernel
theorem d_Wc_poke_6 : decode b_Wc_poke 6 = .ok (.iconst 4, 1) := by decide +kernel
theorem d_Wc_poke_7 : decode b_Wc_poke 7 = .ok (.if_icmp .gt 16, 3) := by decide +kernel
theorem d_Wc_poke_10 : decode b_Wc_poke 10 = .ok (.iload_n 1, 1) := by decide +kernel
theorem d_Wc_poke_11 : decode b_Wc_poke 11 = .ok (.ifCond .lt 12, 3) := by decide +kernel
theorem d_Wc_poke_14 : decode b_Wc_poke 14 = .ok (.iload_n 1, 1) := by decide +kernel
theorem d_Wc_poke_15 : decode b_Wc_poke 15 = .ok (.sipush 1024, 3) := by decide +kernel
theorem d_Wc_poke_18 : decode b_Wc_poke 18 = .ok (.iload_n 3, 1) := by decide +kernel
theorem d_Wc_poke_19 : decode b_Wc_poke 19 = .ok (.isub, 1) := by decide +kernel
theorem d_Wc_poke_20 : decode b_Wc_poke 20 = .ok (.if_icmp .le 5, 3) := by decide +kernel
theorem d_Wc_poke_23 : decode b_Wc_poke 23 = .ok (.iconst 0, 1) := by decide +kernel
theorem d_Wc_poke_24 : decode b_Wc_poke 24 = .ok (.ireturn, 1) := by decide +kernel
theorem d_Wc_poke_25 : decode b_Wc_poke 25 = .ok (.iconst 0, 1) := by decide +kernel
theorem d_Wc_poke_26 : decode b_Wc_poke 26 = .ok (.istore 4, 2) := by decide +kernel
theorem d_Wc_poke_28 : decode b_Wc_poke 28 = .ok (.iload 4, 2) := by decide +kernel
theorem d_Wc_poke_30 : decode b_Wc_poke 30 = .ok (.iload_n 3, 1) := by decide +kernel
theorem d_Wc_poke_31 : decode b_Wc_poke 31 = .ok (.if_icmp .ge 29, 3) := by decide +kernel
theorem d_Wc_poke_34 : decode b_Wc_poke 34 = .ok (.aload_n 0, 1) := by decide +kernel
theorem d_Wc_poke_35 : decode b_Wc_poke 35 = .ok (.getfield 10, 3) := by decide +kernel
theorem d_Wc_poke_38 : decode b_Wc_poke 38 = .ok (.getfield 32, 3) := by decide +kernel
theorem d_Wc_poke_41 : decode b_Wc_poke 41 = .ok (.iload_n 1, 1) := by decide +kernel
theorem d_Wc_poke_42 : decode b_Wc_poke 42 = .ok (.iload 4, 2) := by decide +kernel
theorem d_Wc_poke_44 : decode b_Wc_poke 44 = .ok (.iadd, 1) := by decide +kernel
theorem d_Wc_poke_45 : decode b_Wc_poke 45 = .ok (.iload_n 2, 1) := by decide +kernel
theorem d_Wc_poke_46 : decode b_Wc_poke 46 = .ok (.bipush 8, 2) := by decide +kernel
theorem d_Wc_poke_48 : decode b_Wc_poke 48 = .ok (.iload 4, 2) := by decide +kernel
theorem d_Wc_poke_50 : decode b_Wc_poke 50 = .ok (.imul, 1) := by decide +kernel
theorem d_Wc_poke_51 : decode b_Wc_poke 51 = .ok (.ishr, 1) := by decide +kernel
theorem d_Wc_poke_52 : decode b_Wc_poke 52 = .ok (.i2b, 1) := by decide +kernel
theorem d_Wc_poke_53 : decode b_Wc_poke 53 = .ok (.bastore, 1) := by decide +kernel
theorem d_Wc_poke_54 : decode b_Wc_poke 54 = .ok (.iinc 4 1, 3) := by decide +kernel
theorem d_Wc_poke_57 : decode b_Wc_poke 57 = .ok (.goto (-29), 3) := by decide +kernel
theorem d_Wc_poke_60 : decode b_Wc_poke 60 = .ok (.iconst 1, 1) := by decide +kernel
theorem d_Wc_poke_61 : decode b_Wc_poke 61 = .ok (.ireturn, 1) := by decide +kernel
theorem d_Wc_peek_0 : decode b_Wc_peek 0 = .ok (.iload_n 1, 1) := by decide +kernel
theorem d_Wc_peek_1 : decode b_Wc_peek 1 = .ok (.ifCond .lt 10, 3) := by decide +kernel
theorem d_Wc_peek_4 : decode b_Wc_peek 4 = .ok (.iload_n 1, 1) := by decide +kernel
theorem d_Wc_peek_5 : decode b_Wc_peek 5 = .ok (.sipush 1024, 3) := by decide +kernel
theorem d_Wc_peek_8 : decode b_Wc_peek 8 = .ok (.if_icmp .lt 7, 3) := by decide +kernel
theorem d_Wc_peek_11 : decode b_Wc_peek 11 = .ok (.iconst (-1), 1) := by decide +kernel
theorem d_Wc_peek_12 : decode b_Wc_peek 12 = .ok (.goto 16, 3) := by decide +kernel
theorem d_Wc_peek_15 : decode b_Wc_peek 15 = .ok (.aload_n 0, 1) := by decide +kernel
theorem d_Wc_peek_16 : decode b_Wc_peek 16 = .ok (.getfield 10, 3) := by decide +kernel
theorem d_Wc_peek_19 : decode b_Wc_peek 19 = .ok (.getfield 32, 3) := by decide +kernel
theorem d_Wc_peek_22 : decode b_Wc_peek 22 = .ok (.iload_n 1, 1) := by decide +kernel
theorem d_Wc_peek_23 : decode b_Wc_peek 23 = .ok (.baload, 1) := by decide +kernel
theorem d_Wc_peek_24 : decode b_Wc_peek 24 = .ok (.sipush 255, 3) := by decide +kernel
theorem d_Wc_peek_27 : decode b_Wc_peek 27 = .ok (.iand, 1) := by decide +kernel
theorem d_Wc_peek_28 : decode b_Wc_peek 28 = .ok (.ireturn, 1) := by decide +kernel
theorem d_Wc_start_0 : decode b_Wc_start 0 = .ok (.iload_n 1, 1) := by decide +kernel
theorem d_Wc_start_1 : decode b_Wc_start 1 = .ok (.ifCond .lt 20, 3) := by decide +kernel
theorem d_Wc_start_4 : decode b_Wc_start 4 = .ok (.iload_n 1, 1) := by decide +kernel
theorem d_Wc_start_5 : decode b_Wc_start 5 = .ok (.sipush 255, 3) := by decide +kernel
theorem d_Wc_start_8 : decode b_Wc_start 8 = .ok (.if_icmp .gt 13, 3) := by decide +kernel
theorem d_Wc_start_11 : decode b_Wc_start 11 = .ok (.iload_n 2, 1) := by decide +kernel
theorem d_Wc_start_12 : decode b_Wc_start 12 = .ok (.ifCond .lt 9, 3) := by decide +kernel
theorem d_Wc_start_15 : decode b_Wc_start 15 = .ok (.iload_n 2, 1) := by decide +kernel
theorem d_Wc_start_16 : decode b_Wc_start 16 = .ok (.ldc 36, 2) := by decide +kernel
theorem d_Wc_start_18 : decode b_Wc_start 18 = .ok (.if_icmp .le 5, 3) := by decide +kernel
theorem d_Wc_start_21 : decode b_Wc_start 21 = .ok (.iconst 0, 1) := by decide +kernel
theorem d_Wc_start_22 : decode b_Wc_start 22 = .ok (.ireturn, 1) := by decide +kernel
theorem d_Wc_start_23 : decode b_Wc_start 23 = .ok (.aload_n 0, 1) := by decide +kernel
theorem d_Wc_start_24 : decode b_Wc_start 24 = .ok (.getfield 19, 3) := by decide +kernel
theorem d_Wc_start_27 : decode b_Wc_start 27 = .ok (.iload_n 1, 1) := by decide +kernel
theorem d_Wc_start_28 : decode b_Wc_start 28 = .ok (.putfield 37, 3) := by decide +kernel
theorem d_Wc_start_31 : decode b_Wc_start 31 = .ok (.aload_n 0, 1) := by decide +kernel
theorem d_Wc_start_32 : decode b_Wc_start 32 = .ok (.getfield 19, 3) := by decide +kernel
theorem d_Wc_start_35 : decode b_Wc_start 35 = .ok (.iload_n 2, 1) := by decide +kernel
theorem d_Wc_start_36 : decode b_Wc_start 36 = .ok (.putfield 41, 3) := by decide +kernel
theorem d_Wc_start_39 : decode b_Wc_start 39 = .ok (.aload_n 0, 1) := by decide +kernel
theorem d_Wc_start_40 : decode b_Wc_start 40 = .ok (.getfield 28, 3) := by decide +kernel
theorem d_Wc_start_43 : decode b_Wc_start 43 = .ok (.iconst 0, 1) := by decide +kernel
theorem d_Wc_start_44 : decode b_Wc_start 44 = .ok (.putfield 44, 3) := by decide +kernel
theorem d_Wc_start_47 : decode b_Wc_start 47 = .ok (.iconst 1, 1) := by decide +kernel
theorem d_Wc_start_48 : decode b_Wc_start 48 = .ok (.ireturn, 1) := by decide +kernel
theorem d_Wc_set_0 : decode b_Wc_set 0 = .ok (.iload_n 1, 1) := by decide +kernel
theorem d_Wc_set_1 : decode b_Wc_set 1 = .ok (.tableswitch 153 0 6 #[43, 57, 76, 95, 109, 123, 138], 43) := by decide +kernel
theorem d_Wc_set_44 : decode b_Wc_set 44 = .ok (.aload_n 0, 1) := by decide +kernel
theorem d_Wc_set_45 : decode b_Wc_set 45 = .ok (.getfield 19, 3) := by decide +kernel
theorem d_Wc_set_48 : decode b_Wc_set 48 = .ok (.iload_n 2, 1) := by decide +kernel
theorem d_Wc_set_49 : decode b_Wc_set 49 = .ok (.ldc 36, 2) := by decide +kernel
theorem d_Wc_set_51 : decode b_Wc_set 51 = .ok (.iand, 1) := by decide +kernel
theorem d_Wc_set_52 : decode b_Wc_set 52 = .ok (.putfield 48, 3) := by decide +kernel
theorem d_Wc_set_55 : decode b_Wc_set 55 = .ok (.goto 101, 3) := by decide +kernel
theorem d_Wc_set_58 : decode b_Wc_set 58 = .ok (.aload_n 0, 1) := by decide +kernel
theorem d_Wc_set_59 : decode b_Wc_set 59 = .ok (.getfield 19, 3) := by decide +kernel
theorem d_Wc_set_62 : decode b_Wc_set 62 = .ok (.iload_n 2, 1) := by decide +kernel
theorem d_Wc_set_63 : decode b_Wc_set 63 = .ok (.aload_n 0, 1) := by decide +kernel
theorem d_Wc_set_64 : decode b_Wc_set 64 = .ok (.getfield 19, 3) := by decide +kernel
theorem d_Wc_set_67 : decode b_Wc_set 67 = .ok (.invokevirtual 51, 3) := by decide +kernel
theorem d_Wc_set_70 : decode b_Wc_set 70 = .ok (.iand, 1) := by decide +kernel
theorem d_Wc_set_71 : decode b_Wc_set 71 = .ok (.putfield 55, 3) := by decide +kernel
theorem d_Wc_set_74 : decode b_Wc_set 74 = .ok (.goto 82, 3) := by decide +kernel
theorem d_Wc_set_77 : decode b_Wc_set 77 = .ok (.aload_n 0, 1) := by decide +kernel
theorem d_Wc_set_78 : decode b_Wc_set 78 = .ok (.getfield 19, 3) := by decide +kernel
theorem d_Wc_set_81 : decode b_Wc_set 81 = .ok (.iload_n 2, 1) := by decide +kernel
theorem d_Wc_set_82 : decode b_Wc_set 82 = .ok (.aload_n 0, 1) := by decide +kernel
theorem d_Wc_set_83 : decode b_Wc_set 83 = .ok (.getfield 19, 3) := by decide +kernel
theorem d_Wc_set_86 : decode b_Wc_set 86 = .ok (.invokevirtual 51, 3) := by decide +kernel
theorem d_Wc_set_89 : decode b_Wc_set 89 = .ok (.iand, 1) := by decide +kernel
theorem d_Wc_set_90 : decode b_Wc_set 90 = .ok (.putfield 58, 3) := by decide +kernel
theorem d_Wc_set_93 : decode b_Wc_set 93 = .ok (.goto 63, 3) := by decide +kernel
theorem d_Wc_set_96 : decode b_Wc_set 96 = .ok (.aload_n 0, 1) := by decide +kernel
theorem d_Wc_set_97 : decode b_Wc_set 97 = .ok (.getfield 19, 3) := by decide +kernel
theorem d_Wc_set_100 : decode b_Wc_set 100 = .ok (.iload_n 2, 1) := by decide +kernel
theorem d_Wc_set_101 : decode b_Wc_set 101 = .ok (.ldc 36, 2) := by decide +kernel
theorem d_Wc_set_103 : decode b_Wc_set 103 = .ok (.iand, 1) := by decide +kernel
theorem d_Wc_set_104 : decode b_Wc_set 104 = .ok (.putfield 61, 3) := by decide +kernel
theorem d_Wc_set_107 : decode b_Wc_set 107 = .ok (.goto 49, 3) := by decide +kernel
theorem d_Wc_set_110 : decode b_Wc_set 110 = .ok (.aload_n 0, 1) := by decide +kernel
theorem d_Wc_set_111 : decode b_Wc_set 111 = .ok (.getfield 19, 3) := by decide +kernel
theorem d_Wc_set_114 : decode b_Wc_set 114 = .ok (.iload_n 2, 1) := by decide +kernel
theorem d_Wc_set_115 : decode b_Wc_set 115 = .ok (.ldc 36, 2) := by decide +kernel
theorem d_Wc_set_117 : decode b_Wc_set 117 = .ok (.iand, 1) := by decide +kernel
theorem d_Wc_set_118 : decode b_Wc_set 118 = .ok (.putfield 64, 3) := by decide +kernel
theorem d_Wc_set_121 : decode b_Wc_set 121 = .ok (.goto 35, 3) := by decide +kernel
theorem d_Wc_set_124 : decode b_Wc_set 124 = .ok (.aload_n 0, 1) := by decide +kernel
theorem d_Wc_set_125 : decode b_Wc_set 125 = .ok (.getfield 19, 3) := by decide +kernel
theorem d_Wc_set_128 : decode b_Wc_set 128 = .ok (.iload_n 2, 1) := by decide +kernel
theorem d_Wc_set_129 : decode b_Wc_set 129 = .ok (.sipush 255, 3) := by decide +kernel
theorem d_Wc_set_132 : decode b_Wc_set 132 = .ok (.iand, 1) := by decide +kernel
theorem d_Wc_set_133 : decode b_Wc_set 133 = .ok (.putfield 67, 3) := by decide +kernel
theorem d_Wc_set_136 : decode b_Wc_set 136 = .ok (.goto 20, 3) := by decide +kernel
theorem d_Wc_set_139 : decode b_Wc_set 139 = .ok (.aload_n 0, 1) := by decide +kernel
theorem d_Wc_set_140 : decode b_Wc_set 140 = .ok (.getfield 19, 3) := by decide +kernel
theorem d_Wc_set_143 : decode b_Wc_set 143 = .ok (.iload_n 2, 1) := by decide +kernel
theorem d_Wc_set_144 : decode b_Wc_set 144 = .ok (.sipush 255, 3) := by decide +kernel
theorem d_Wc_set_147 : decode b_Wc_set 147 = .ok (.iand, 1) := by decide +kernel
theorem d_Wc_set_148 : decode b_Wc_set 148 = .ok (.invokevirtual 70, 3) := by decide +kernel
theorem d_Wc_set_151 : decode b_Wc_set 151 = .ok (.goto 5, 3) := by decide +kernel
theorem d_Wc_set_154 : decode b_Wc_set 154 = .ok (.iconst 0, 1) := by decide +kernel
theorem d_Wc_set_155 : decode b_Wc_set 155 = .ok (.ireturn, 1) := by decide +kernel
theorem d_Wc_set_156 : decode b_Wc_set 156 = .ok (.iconst 1, 1) := by decide +kernel
theorem d_Wc_set_157 : decode b_Wc_set 157 = .ok (.ireturn, 1) := by decide +kernel
theorem d_Wc_register_0 : decode b_Wc_register 0 = .ok (.iload_n 1, 1) := by decide +kernel
theorem d_Wc_register_1 : decode b_Wc_register 1 = .ok (.tableswitch 141 0 8 #[51, 61, 71, 81, 91, 101, 111, 121, 131], 51) := by decide +kernel
theorem d_Wc_register_52 : decode b_Wc_register 52 = .ok (.aload_n 0, 1) := by decide +kernel
theorem d_Wc_register_53 : decode b_Wc_register 53 = .ok (.getfield 19, 3) := by decide +kernel
theorem d_Wc_register_56 : decode b_Wc_register 56 = .ok (.getfield 48, 3) := by decide +kernel
theorem d_Wc_register_59 : decode b_Wc_register 59 = .ok (.goto 84, 3) := by decide +kernel
theorem d_Wc_register_62 : decode b_Wc_register 62 = .ok (.aload_n 0, 1) := by decide +kernel
theorem d_Wc_register_63 : decode b_Wc_register 63 = .ok (.getfield 19, 3) := by decide +kernel
theorem d_Wc_register_66 : decode b_Wc_register 66 = .ok (.getfield 55, 3) := by decide +kernel
theorem d_Wc_register_69 : decode b_Wc_register 69 = .ok (.goto 74, 3) := by decide +kernel
theorem d_Wc_register_72 : decode b_Wc_register 72 = .ok (.aload_n 0, 1) := by decide +kernel
theorem d_Wc_register_73 : decode b_Wc_register 73 = .ok (.getfield 19, 3) := by decide +kernel
theorem d_Wc_register_76 : decode b_Wc_register 76 = .ok (.getfield 58, 3) := by decide +kernel
theorem d_Wc_register_79 : decode b_Wc_register 79 = .ok (.goto 64, 3) := by decide +kernel
theorem d_Wc_register_82 : decode b_Wc_register 82 = .ok (.aload_n 0, 1) := by decide +kernel
theorem d_Wc_register_83 : decode b_Wc_register 83 = .ok (.getfield 19, 3) := by decide +kernel
theorem d_Wc_register_86 : decode b_Wc_register 86 = .ok (.getfield 61, 3) := by decide +kernel
theorem d_Wc_register_89 : decode b_Wc_register 89 = .ok (.goto 54, 3) := by decide +kernel
theorem d_Wc_register_92 : decode b_Wc_register 92 = .ok (.aload_n 0, 1) := by decide +kernel
theorem d_Wc_register_93 : decode b_Wc_register 93 = .ok (.getfield 19, 3) := by decide +kernel
theorem d_Wc_register_96 : decode b_Wc_register 96 = .ok (.getfield 64, 3) := by decide +kernel
theorem d_Wc_register_99 : decode b_Wc_register 99 = .ok (.goto 44, 3) := by decide +kernel
theorem d_Wc_register_102 : decode b_Wc_register 102 = .ok (.aload_n 0, 1) := by decide +kernel
theorem d_Wc_register_103 : decode b_Wc_register 103 = .ok (.getfield 19, 3) := by decide +kernel
theorem d_Wc_register_106 : decode b_Wc_register 106 = .ok (.getfield 67, 3) := by decide +kernel
theorem d_Wc_register_109 : decode b_Wc_register 109 = .ok (.goto 34, 3) := by decide +kernel
theorem d_Wc_register_112 : decode b_Wc_register 112 = .ok (.aload_n 0, 1) := by decide +kernel
theorem d_Wc_register_113 : decode b_Wc_register 113 = .ok (.getfield 19, 3) := by decide +kernel
theorem d_Wc_register_116 : decode b_Wc_register 116 = .ok (.getfield 74, 3) := by decide +kernel
theorem d_Wc_register_119 : decode b_Wc_register 119 = .ok (.goto 24, 3) := by decide +kernel
theorem d_Wc_register_122 : decode b_Wc_register 122 = .ok (.aload_n 0, 1) := by decide +kernel
theorem d_Wc_register_123 : decode b_Wc_register 123 = .ok (.getfield 19, 3) := by decide +kernel
theorem d_Wc_register_126 : decode b_Wc_register 126 = .ok (.getfield 37, 3) := by decide +kernel
theorem d_Wc_register_129 : decode b_Wc_register 129 = .ok (.goto 14, 3) := by decide +kernel
theorem d_Wc_register_132 : decode b_Wc_register 132 = .ok (.aload_n 0, 1) := by decide +kernel
theorem d_Wc_register_133 : decode b_Wc_register 133 = .ok (.getfield 19, 3) := by decide +kernel
theorem d_Wc_register_136 : decode b_Wc_register 136 = .ok (.getfield 41, 3) := by decide +kernel
theorem d_Wc_register_139 : decode b_Wc_register 139 = .ok (.goto 4, 3) := by decide +kernel
theorem d_Wc_register_142 : decode b_Wc_register 142 = .ok (.iconst (-1), 1) := by decide +kernel
theorem d_Wc_register_143 : decode b_Wc_register 143 = .ok (.ireturn, 1) := by decide +kernel
theorem d_Wc_run_0 : decode b_Wc_run 0 = .ok (.iload_n 1, 1) := by decide +kernel
theorem d_Wc_run_1 : decode b_Wc_run 1 = .ok (.ifCond .lt 9, 3) := by decide +kernel
theorem d_Wc_run_4 : decode b_Wc_run 4 = .ok (.iload_n 1, 1) := by decide +kernel
theorem d_Wc_run_5 : decode b_Wc_run 5 = .ok (.bipush 60, 2) := by decide +kernel
theorem d_Wc_run_7 : decode b_Wc_run 7 = .ok (.if_icmp .le 5, 3) := by decide +kernel
theorem d_Wc_run_10 : decode b_Wc_run 10 = .ok (.iconst (-1), 1) := by decide +kernel
theorem d_Wc_run_11 : decode b_Wc_run 11 = .ok (.ireturn, 1) := by decide +kernel
theorem d_Wc_run_12 : decode b_Wc_run 12 = .ok (.iconst 0, 1) := by decide +kernel
theorem d_Wc_run_13 : decode b_Wc_run 13 = .ok (.istore_n 2, 1) := by decide +kernel
theorem d_Wc_run_14 : decode b_Wc_run 14 = .ok (.iload_n 2, 1) := by decide +kernel
theorem d_Wc_run_15 : decode b_Wc_run 15 = .ok (.iload_n 1, 1) := by decide +kernel
theorem d_Wc_run_16 : decode b_Wc_run 16 = .ok (.if_icmp .ge 26, 3) := by decide +kernel
theorem d_Wc_run_19 : decode b_Wc_run 19 = .ok (.aload_n 0, 1) := by decide +kernel
theorem d_Wc_run_20 : decode b_Wc_run 20 = .ok (.getfield 28, 3) := by decide +kernel
theorem d_Wc_run_23 : decode b_Wc_run 23 = .ok (.getfield 44, 3) := by decide +kernel
theorem d_Wc_run_26 : decode b_Wc_run 26 = .ok (.ifCond .ne 16, 3) := by decide +kernel
theorem d_Wc_run_29 : decode b_Wc_run 29 = .ok (.aload_n 0, 1) := by decide +kernel
theorem d_Wc_run_30 : decode b_Wc_run 30 = .ok (.getfield 28, 3) := by decide +kernel
theorem d_Wc_run_33 : decode b_Wc_run 33 = .ok (.invokevirtual 77, 3) := by decide +kernel
theorem d_Wc_run_36 : decode b_Wc_run 36 = .ok (.iinc 2 1, 3) := by decide +kernel
theorem d_Wc_run_39 : decode b_Wc_run 39 = .ok (.goto (-25), 3) := by decide +kernel
theorem d_Wc_run_42 : decode b_Wc_run 42 = .ok (.iload_n 2, 1) := by decide +kernel
theorem d_Wc_run_43 : decode b_Wc_run 43 = .ok (.ireturn, 1) := by decide +kernel
theorem d_Wc_stopped_0 : decode b_Wc_stopped 0 = .ok (.aload_n 0, 1) := by decide +kernel
theorem d_Wc_stopped_1 : decode b_Wc_stopped 1 = .ok (.getfield 28, 3) := by decide +kernel
theorem d_Wc_stopped_4 : decode b_Wc_stopped 4 = .ok (.getfield 44, 3) := by decide +kernel
theorem d_Wc_stopped_7 : decode b_Wc_stopped 7 = .ok (.ireturn, 1) := by decide +kernel
theorem d_Wc_interrupt_0 : decode b_Wc_interrupt 0 = .ok (.aload_n 0, 1) := by decide +kernel
theorem d_Wc_interrupt_1 : decode b_Wc_interrupt 1 = .ok (.getfield 28, 3) := by decide +kernel
theorem d_Wc_interrupt_4 : decode b_Wc_interrupt 4 = .ok (.getfield 80, 3) := by decide +kernel
theorem d_Wc_interrupt_7 : decode b_Wc_interrupt 7 = .ok (.ifCond .eq 5, 3) := by decide +kernel
theorem d_Wc_interrupt_10 : decode b_Wc_interrupt 10 = .ok (.iconst 0, 1) := by decide +kernel
theorem d_Wc_interrupt_11 : decode b_Wc_interrupt 11 = .ok (.ireturn, 1) := by decide +kernel
theorem d_Wc_interrupt_12 : decode b_Wc_interrupt 12 = .ok (.aload_n 0, 1) := by decide +kernel
theorem d_Wc_interrupt_13 : decode b_Wc_interrupt 13 = .ok (.getfield 28, 3) := by decide +kernel
theorem d_Wc_interrupt_16 : decode b_Wc_interrupt 16 = .ok (.iconst 1, 1) := by decide +kernel
theorem d_Wc_interrupt_17 : decode b_Wc_interrupt 17 = .ok (.putfield 80, 3) := by decide +kernel
theorem d_Wc_interrupt_20 : decode b_Wc_interrupt 20 = .ok (.iconst 1, 1) := by decide +kernel
theorem d_Wc_interrupt_21 : decode b_Wc_interrupt 21 = .ok (.ireturn, 1) := by decide +kernel
theorem d_Wc_line_0 : decode b_Wc_line 0 = .ok (.aload_n 0, 1) := by decide +kernel
theorem d_Wc_line_1 : decode b_Wc_line 1 = .ok (.getfield 28, 3) := by decide +kernel
theorem d_Wc_line_4 : decode b_Wc_line 4 = .ok (.iload_n 1, 1) := by decide +kernel
theorem d_Wc_line_5 : decode b_Wc_line 5 = .ok (.putfield 83, 3) := by decide +kernel
theorem d_Wc_line_8 : decode b_Wc_line 8 = .ok (.return_, 1) := by decide +kernel
theorem d_Wc_touches_0 : decode b_Wc_touches 0 = .ok (.aload_n 0, 1) := by decide +kernel
theorem d_Wc_touches_1 : decode b_Wc_touches 1 = .ok (.getfield 10, 3) := by decide +kernel
theorem d_Wc_touches_4 : decode b_Wc_touches 4 = .ok (.getfield 86, 3) := by decide +kernel
theorem d_Wc_touches_7 : decode b_Wc_touches 7 = .ok (.ireturn, 1) := by decide +kernel
theorem d_Wc_touched_0 : decode b_Wc_touched 0 = .ok (.iload_n 1, 1) := by decide +kernel
theorem d_Wc_touched_1 : decode b_Wc_touched 1 = .ok (.ifCond .lt 20, 3) := by decide +kernel
theorem d_Wc_touched_4 : decode b_Wc_touched 4 = .ok (.iload_n 1, 1) := by decide +kernel
theorem d_Wc_touched_5 : decode b_Wc_touched 5 = .ok (.bipush 8, 2) := by decide +kernel
theorem d_Wc_touched_7 : decode b_Wc_touched 7 = .ok (.if_icmp .ge 14, 3) := by decide +kernel
theorem d_Wc_touched_10 : decode b_Wc_touched 10 = .ok (.iload_n 1, 1) := by decide +kernel
theorem d_Wc_touched_11 : decode b_Wc_touched 11 = .ok (.aload_n 0, 1) := by decide +kernel
theorem d_Wc_touched_12 : decode b_Wc_touched 12 = .ok (.getfield 10, 3) := by decide +kernel
theorem d_Wc_touched_15 : decode b_Wc_touched 15 = .ok (.getfield 86, 3) := by decide +kernel
theorem d_Wc_touched_18 : decode b_Wc_touched 18 = .ok (.if_icmp .lt 7, 3) := by decide +kernel
theorem d_Wc_touched_21 : decode b_Wc_touched 21 = .ok (.iconst (-1), 1) := by decide +kernel
theorem d_Wc_touched_22 : decode b_Wc_touched 22 = .ok (.goto 11, 3) := by decide +kernel
theorem d_Wc_touched_25 : decode b_Wc_touched 25 = .ok (.aload_n 0, 1) := by decide +kernel
theorem d_Wc_touched_26 : decode b_Wc_touched 26 = .ok (.getfield 10, 3) := by decide +kernel
theorem d_Wc_touched_29 : decode b_Wc_touched 29 = .ok (.iload_n 1, 1) := by decide +kernel
theorem d_Wc_touched_30 : decode b_Wc_touched 30 = .ok (.invokevirtual 89, 3) := by decide +kernel
theorem d_Wc_touched_33 : decode b_Wc_touched 33 = .ok (.ireturn, 1) := by decide +kernel
theorem d_Wc_steps_0 : decode b_Wc_steps 0 = .ok (.aload_n 0, 1) := by decide +kernel
theorem d_Wc_steps_1 : decode b_Wc_steps 1 = .ok (.getfield 28, 3) := by decide +kernel
theorem d_Wc_steps_4 : decode b_Wc_steps 4 = .ok (.getfield 93, 3) := by decide +kernel
theorem d_Wc_steps_7 : decode b_Wc_steps 7 = .ok (.ireturn, 1) := by decide +kernel
