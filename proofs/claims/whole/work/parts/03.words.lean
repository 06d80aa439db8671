set_option maxRecDepth 100000 in
theorem q_0 : Cond.selects R_Prc y_Prc_enterInterrupt y_Prc_enterInterrupt ∈ WS := WS_at 0 rfl rfl
set_option maxRecDepth 100000 in
theorem q_1 : Cond.selects R_Prc y_Prc_useAccumulator y_Prc_useAccumulator ∈ WS := WS_at 1 rfl rfl
set_option maxRecDepth 100000 in
theorem q_2 : Cond.selects R_Opd y_Opd_direct y_Opd_direct ∈ WS := WS_at 2 rfl rfl
set_option maxRecDepth 100000 in
theorem q_3 : Cond.selects R_Opd y_Opd_inDataBank y_Opd_inDataBank ∈ WS := WS_at 3 rfl rfl
set_option maxRecDepth 100000 in
theorem q_4 : Cond.selects R_Opd y_Opd_onStack y_Opd_onStack ∈ WS := WS_at 4 rfl rfl
set_option maxRecDepth 100000 in
theorem q_5 : Cond.selects R_Prc y_Prc_addToA y_Prc_addToA ∈ WS := WS_at 5 rfl rfl
set_option maxRecDepth 100000 in
theorem q_6 : Cond.selects R_Prc y_Prc_compare y_Prc_compare ∈ WS := WS_at 6 rfl rfl
set_option maxRecDepth 100000 in
theorem q_7 : Cond.selects R_Prc y_Prc_useIndex y_Prc_useIndex ∈ WS := WS_at 7 rfl rfl
set_option maxRecDepth 100000 in
theorem q_8 : Cond.selects R_Prc y_Prc_storeZero y_Prc_storeZero ∈ WS := WS_at 8 rfl rfl
set_option maxRecDepth 100000 in
theorem q_9 : Cond.selects R_Prc y_Prc_changeMemory y_Prc_changeMemory ∈ WS := WS_at 9 rfl rfl
set_option maxRecDepth 100000 in
theorem q_10 : Cond.selects R_Prc y_Prc_changed y_Prc_changed ∈ WS := WS_at 10 rfl rfl
set_option maxRecDepth 100000 in
theorem q_11 : Cond.selects R_Prc y_Prc_changeRegister y_Prc_changeRegister ∈ WS := WS_at 11 rfl rfl
set_option maxRecDepth 100000 in
theorem q_12 : Cond.selects R_Prc y_Prc_transfer y_Prc_transfer ∈ WS := WS_at 12 rfl rfl
set_option maxRecDepth 100000 in
theorem q_13 : Cond.selects R_Prc y_Prc_push y_Prc_push ∈ WS := WS_at 13 rfl rfl
set_option maxRecDepth 100000 in
theorem q_14 : Cond.selects R_Prc y_Prc_pull y_Prc_pull ∈ WS := WS_at 14 rfl rfl
set_option maxRecDepth 100000 in
theorem q_15 : Cond.selects R_Prc y_Prc_branch y_Prc_branch ∈ WS := WS_at 15 rfl rfl
set_option maxRecDepth 100000 in
theorem q_16 : Cond.selects R_Prc y_Prc_jump y_Prc_jump ∈ WS := WS_at 16 rfl rfl
set_option maxRecDepth 100000 in
theorem q_17 : Cond.selects R_Prc y_Prc_changeFlags y_Prc_changeFlags ∈ WS := WS_at 17 rfl rfl
set_option maxRecDepth 100000 in
theorem q_18 : Cond.selects R_Prc y_Prc_moveBlock y_Prc_moveBlock ∈ WS := WS_at 18 rfl rfl
set_option maxRecDepth 100000 in
theorem q_19 : Cond.selects R_Mdl y_Mdl_is y_Mdl_is ∈ WS := WS_at 19 rfl rfl
set_option maxRecDepth 100000 in
theorem q_20 : Cond.selects R_Mdl y_Mdl_cut y_Mdl_cut ∈ WS := WS_at 20 rfl rfl
set_option maxRecDepth 100000 in
theorem q_21 : Cond.selects R_Mdl y_Mdl_setFlags y_Mdl_setFlags ∈ WS := WS_at 21 rfl rfl
set_option maxRecDepth 100000 in
theorem q_22 : Cond.selects R_Mdl y_Mdl_step y_Mdl_step ∈ WS := WS_at 22 rfl rfl
set_option maxRecDepth 100000 in
theorem q_23 : Cond.selects R_Mdl y_Mdl_interruptFrom y_Mdl_interruptFrom ∈ WS := WS_at 23 rfl rfl
set_option maxRecDepth 100000 in
theorem q_24 : Cond.selects R_Mdl y_Mdl_push y_Mdl_push ∈ WS := WS_at 24 rfl rfl
set_option maxRecDepth 100000 in
theorem q_25 : Cond.selects R_Mdl y_Mdl_write y_Mdl_write ∈ WS := WS_at 25 rfl rfl
set_option maxRecDepth 100000 in
theorem q_26 : Cond.selects R_Mdl y_Mdl_touch y_Mdl_touch ∈ WS := WS_at 26 rfl rfl
set_option maxRecDepth 100000 in
theorem q_27 : Cond.selects R_Mdl y_Mdl_pushWord y_Mdl_pushWord ∈ WS := WS_at 27 rfl rfl
set_option maxRecDepth 100000 in
theorem q_28 : Cond.selects R_Mdl y_Mdl_flag y_Mdl_flag ∈ WS := WS_at 28 rfl rfl
set_option maxRecDepth 100000 in
theorem q_29 : Cond.selects R_Mdl y_Mdl_readWord y_Mdl_readWord ∈ WS := WS_at 29 rfl rfl
set_option maxRecDepth 100000 in
theorem q_30 : Cond.selects R_Mdl y_Mdl_read y_Mdl_read ∈ WS := WS_at 30 rfl rfl
set_option maxRecDepth 100000 in
theorem q_31 : Cond.selects R_Mdl y_Mdl_after y_Mdl_after ∈ WS := WS_at 31 rfl rfl
set_option maxRecDepth 100000 in
theorem q_32 : Cond.selects R_Mdl y_Mdl_next y_Mdl_next ∈ WS := WS_at 32 rfl rfl
set_option maxRecDepth 100000 in
theorem q_33 : Cond.selects R_Mdl y_Mdl_arithmetic y_Mdl_arithmetic ∈ WS := WS_at 33 rfl rfl
set_option maxRecDepth 100000 in
theorem q_34 : Cond.selects R_Mdl y_Mdl_find y_Mdl_find ∈ WS := WS_at 34 rfl rfl
set_option maxRecDepth 100000 in
theorem q_35 : Cond.selects R_Mdl y_Mdl_direct y_Mdl_direct ∈ WS := WS_at 35 rfl rfl
set_option maxRecDepth 100000 in
theorem q_36 : Cond.selects R_Mdl y_Mdl_nextWord y_Mdl_nextWord ∈ WS := WS_at 36 rfl rfl
set_option maxRecDepth 100000 in
theorem q_37 : Cond.selects R_Mdl y_Mdl_far y_Mdl_far ∈ WS := WS_at 37 rfl rfl
set_option maxRecDepth 100000 in
theorem q_38 : Cond.selects R_Mdl y_Mdl_nextLong y_Mdl_nextLong ∈ WS := WS_at 38 rfl rfl
set_option maxRecDepth 100000 in
theorem q_39 : Cond.selects R_Mdl y_Mdl_accumulator y_Mdl_accumulator ∈ WS := WS_at 39 rfl rfl
set_option maxRecDepth 100000 in
theorem q_40 : Cond.selects R_Mdl y_Mdl_store y_Mdl_store ∈ WS := WS_at 40 rfl rfl
set_option maxRecDepth 100000 in
theorem q_41 : Cond.selects R_Mdl y_Mdl_immediate y_Mdl_immediate ∈ WS := WS_at 41 rfl rfl
set_option maxRecDepth 100000 in
theorem q_42 : Cond.selects R_Mdl y_Mdl_load y_Mdl_load ∈ WS := WS_at 42 rfl rfl
set_option maxRecDepth 100000 in
theorem q_43 : Cond.selects R_Mdl y_Mdl_add y_Mdl_add ∈ WS := WS_at 43 rfl rfl
set_option maxRecDepth 100000 in
theorem q_44 : Cond.selects R_Mdl y_Mdl_result y_Mdl_result ∈ WS := WS_at 44 rfl rfl
set_option maxRecDepth 100000 in
theorem q_45 : Cond.selects R_Mdl y_Mdl_setAccumulator y_Mdl_setAccumulator ∈ WS := WS_at 45 rfl rfl
set_option maxRecDepth 100000 in
theorem q_46 : Cond.selects R_Mdl y_Mdl_compare y_Mdl_compare ∈ WS := WS_at 46 rfl rfl
set_option maxRecDepth 100000 in
theorem q_47 : Cond.selects R_Mdl y_Mdl_change y_Mdl_change ∈ WS := WS_at 47 rfl rfl
set_option maxRecDepth 100000 in
theorem q_48 : Cond.selects R_Mdl y_Mdl_changeMemory y_Mdl_changeMemory ∈ WS := WS_at 48 rfl rfl
set_option maxRecDepth 100000 in
theorem q_49 : Cond.selects R_Mdl y_Mdl_changed y_Mdl_changed ∈ WS := WS_at 49 rfl rfl
set_option maxRecDepth 100000 in
theorem q_50 : Cond.selects R_Mdl y_Mdl_index y_Mdl_index ∈ WS := WS_at 50 rfl rfl
set_option maxRecDepth 100000 in
theorem q_51 : Cond.selects R_Mdl y_Mdl_indexOperand y_Mdl_indexOperand ∈ WS := WS_at 51 rfl rfl
set_option maxRecDepth 100000 in
theorem q_52 : Cond.selects R_Mdl y_Mdl_findIndex y_Mdl_findIndex ∈ WS := WS_at 52 rfl rfl
set_option maxRecDepth 100000 in
theorem q_53 : Cond.selects R_Mdl y_Mdl_storeAt y_Mdl_storeAt ∈ WS := WS_at 53 rfl rfl
set_option maxRecDepth 100000 in
theorem q_54 : Cond.selects R_Mdl y_Mdl_transfer y_Mdl_transfer ∈ WS := WS_at 54 rfl rfl
set_option maxRecDepth 100000 in
theorem q_55 : Cond.selects R_Mdl y_Mdl_stack y_Mdl_stack ∈ WS := WS_at 55 rfl rfl
set_option maxRecDepth 100000 in
theorem q_56 : Cond.selects R_Mdl y_Mdl_pushOf y_Mdl_pushOf ∈ WS := WS_at 56 rfl rfl
set_option maxRecDepth 100000 in
theorem q_57 : Cond.selects R_Mdl y_Mdl_pullOf y_Mdl_pullOf ∈ WS := WS_at 57 rfl rfl
set_option maxRecDepth 100000 in
theorem q_58 : Cond.selects R_Mdl y_Mdl_pull y_Mdl_pull ∈ WS := WS_at 58 rfl rfl
set_option maxRecDepth 100000 in
theorem q_59 : Cond.selects R_Mdl y_Mdl_pullWord y_Mdl_pullWord ∈ WS := WS_at 59 rfl rfl
set_option maxRecDepth 100000 in
theorem q_60 : Cond.selects R_Mdl y_Mdl_jump y_Mdl_jump ∈ WS := WS_at 60 rfl rfl
set_option maxRecDepth 100000 in
theorem q_61 : Cond.selects R_Mdl y_Mdl_branch y_Mdl_branch ∈ WS := WS_at 61 rfl rfl
set_option maxRecDepth 100000 in
theorem q_62 : Cond.selects R_Mdl y_Mdl_call y_Mdl_call ∈ WS := WS_at 62 rfl rfl
set_option maxRecDepth 100000 in
theorem q_63 : Cond.selects R_Mdl y_Mdl_longJump y_Mdl_longJump ∈ WS := WS_at 63 rfl rfl
set_option maxRecDepth 100000 in
theorem q_64 : Cond.selects R_Mdl y_Mdl_other y_Mdl_other ∈ WS := WS_at 64 rfl rfl
set_option maxRecDepth 100000 in
theorem q_65 : Cond.selects R_Mdl y_Mdl_moveBlock y_Mdl_moveBlock ∈ WS := WS_at 65 rfl rfl
set_option maxRecDepth 100000 in
theorem q_67 : Cond.initialized R_Wc ∈ WS := WS_at 67 rfl rfl
set_option maxRecDepth 100000 in
theorem q_68 : Cond.initialized R_Bus ∈ WS := WS_at 68 rfl rfl
set_option maxRecDepth 100000 in
theorem q_69 : Cond.initialized R_Reg ∈ WS := WS_at 69 rfl rfl
set_option maxRecDepth 100000 in
theorem q_70 : Cond.initialized R_Prc ∈ WS := WS_at 70 rfl rfl
set_option maxRecDepth 100000 in
theorem q_71 : Cond.initialized R_Opd ∈ WS := WS_at 71 rfl rfl
set_option maxRecDepth 100000 in
theorem q_72 : Cond.initialized R_Stk ∈ WS := WS_at 72 rfl rfl
set_option maxRecDepth 100000 in
theorem q_73 : Cond.initialized R_Mdl ∈ WS := WS_at 73 rfl rfl
set_option maxRecDepth 100000 in
theorem q_79 : Cond.methodLink R_Wc 1 objectInit ∈ WS := WS_at 79 rfl rfl
set_option maxRecDepth 100000 in
theorem q_80 : Cond.instanceMethod objectInit ∈ WS := WS_at 80 rfl rfl
set_option maxRecDepth 100000 in
theorem q_81 : Cond.code objectInit ⟨#[0xb1]⟩ 1 none ∈ WS := WS_at 81 rfl rfl
set_option maxRecDepth 100000 in
theorem q_82 : Cond.classLink R_Wc 7 R_Bus ∈ WS := WS_at 82 rfl rfl
set_option maxRecDepth 100000 in
theorem q_83 : Cond.instantiable R_Bus 3 ∈ WS := WS_at 83 rfl rfl
set_option maxRecDepth 100000 in
theorem q_85 : Cond.instanceMethod y_Bus_init ∈ WS := WS_at 85 rfl rfl
set_option maxRecDepth 100000 in
theorem q_86 : Cond.code y_Bus_init b_Bus_init 1 none ∈ WS := WS_at 86 rfl rfl
set_option maxRecDepth 100000 in
theorem q_87 : Cond.methodLink R_Bus 1 objectInit ∈ WS := WS_at 87 rfl rfl
set_option maxRecDepth 100000 in
theorem q_88 : Cond.fieldLink R_Bus 9 "WideCore$Bus" "cells" "[B" ∈ WS := WS_at 88 rfl rfl
set_option maxRecDepth 100000 in
theorem q_89 : Cond.fieldLink R_Wc 32 "WideCore$Bus" "cells" "[B" ∈ WS := WS_at 89 rfl rfl
set_option maxRecDepth 100000 in
theorem q_90 : Cond.fieldLink R_Bus 13 "WideCore$Bus" "latest" "[I" ∈ WS := WS_at 90 rfl rfl
set_option maxRecDepth 100000 in
theorem q_91 : Cond.fieldLink R_Bus 30 "WideCore$Bus" "touchCount" "I" ∈ WS := WS_at 91 rfl rfl
set_option maxRecDepth 100000 in
theorem q_92 : Cond.fieldLink R_Wc 86 "WideCore$Bus" "touchCount" "I" ∈ WS := WS_at 92 rfl rfl
set_option maxRecDepth 100000 in
theorem q_93 : Cond.laysFinal R_Bus R_Bus "cells" "[B" ∈ WS := WS_at 93 rfl rfl
set_option maxRecDepth 100000 in
theorem q_95 : Cond.laysFinal R_Bus R_Bus "latest" "[I" ∈ WS := WS_at 95 rfl rfl
set_option maxRecDepth 100000 in
theorem q_97 : Cond.lays R_Bus R_Bus "touchCount" "I" ∈ WS := WS_at 97 rfl rfl
set_option maxRecDepth 100000 in
theorem q_100 : Cond.arrayClass .byte ∈ WS := WS_at 100 rfl rfl
set_option maxRecDepth 100000 in
theorem q_101 : Cond.arrayClass .int ∈ WS := WS_at 101 rfl rfl
set_option maxRecDepth 100000 in
theorem q_102 : Cond.classLink R_Wc 16 R_Reg ∈ WS := WS_at 102 rfl rfl
set_option maxRecDepth 100000 in
theorem q_103 : Cond.instantiable R_Reg 9 ∈ WS := WS_at 103 rfl rfl
set_option maxRecDepth 100000 in
theorem q_105 : Cond.instanceMethod y_Reg_init ∈ WS := WS_at 105 rfl rfl
set_option maxRecDepth 100000 in
theorem q_106 : Cond.code y_Reg_init b_Reg_init 1 none ∈ WS := WS_at 106 rfl rfl
set_option maxRecDepth 100000 in
theorem q_107 : Cond.methodLink R_Reg 1 objectInit ∈ WS := WS_at 107 rfl rfl
set_option maxRecDepth 100000 in
theorem q_108 : Cond.fieldLink R_Prc 135 "WideCore$Registers" "c" "I" ∈ WS := WS_at 108 rfl rfl
set_option maxRecDepth 100000 in
theorem q_109 : Cond.fieldLink R_Wc 48 "WideCore$Registers" "c" "I" ∈ WS := WS_at 109 rfl rfl
set_option maxRecDepth 100000 in
theorem q_110 : Cond.fieldLink R_Reg 26 "WideCore$Registers" "c" "I" ∈ WS := WS_at 110 rfl rfl
set_option maxRecDepth 100000 in
theorem q_111 : Cond.fieldLink R_Wc 55 "WideCore$Registers" "x" "I" ∈ WS := WS_at 111 rfl rfl
set_option maxRecDepth 100000 in
theorem q_112 : Cond.fieldLink R_Opd 44 "WideCore$Registers" "x" "I" ∈ WS := WS_at 112 rfl rfl
set_option maxRecDepth 100000 in
theorem q_113 : Cond.fieldLink R_Prc 180 "WideCore$Registers" "x" "I" ∈ WS := WS_at 113 rfl rfl
set_option maxRecDepth 100000 in
theorem q_114 : Cond.fieldLink R_Reg 32 "WideCore$Registers" "x" "I" ∈ WS := WS_at 114 rfl rfl
set_option maxRecDepth 100000 in
theorem q_115 : Cond.fieldLink R_Wc 58 "WideCore$Registers" "y" "I" ∈ WS := WS_at 115 rfl rfl
set_option maxRecDepth 100000 in
theorem q_116 : Cond.fieldLink R_Opd 50 "WideCore$Registers" "y" "I" ∈ WS := WS_at 116 rfl rfl
set_option maxRecDepth 100000 in
theorem q_117 : Cond.fieldLink R_Prc 183 "WideCore$Registers" "y" "I" ∈ WS := WS_at 117 rfl rfl
set_option maxRecDepth 100000 in
theorem q_118 : Cond.fieldLink R_Reg 39 "WideCore$Registers" "y" "I" ∈ WS := WS_at 118 rfl rfl
set_option maxRecDepth 100000 in
theorem q_119 : Cond.fieldLink R_Reg 7 "WideCore$Registers" "s" "I" ∈ WS := WS_at 119 rfl rfl
set_option maxRecDepth 100000 in
theorem q_120 : Cond.fieldLink R_Stk 17 "WideCore$Registers" "s" "I" ∈ WS := WS_at 120 rfl rfl
set_option maxRecDepth 100000 in
theorem q_121 : Cond.fieldLink R_Wc 61 "WideCore$Registers" "s" "I" ∈ WS := WS_at 121 rfl rfl
set_option maxRecDepth 100000 in
theorem q_122 : Cond.fieldLink R_Opd 74 "WideCore$Registers" "s" "I" ∈ WS := WS_at 122 rfl rfl
set_option maxRecDepth 100000 in
theorem q_123 : Cond.fieldLink R_Prc 190 "WideCore$Registers" "s" "I" ∈ WS := WS_at 123 rfl rfl
set_option maxRecDepth 100000 in
theorem q_124 : Cond.fieldLink R_Wc 64 "WideCore$Registers" "d" "I" ∈ WS := WS_at 124 rfl rfl
set_option maxRecDepth 100000 in
theorem q_125 : Cond.fieldLink R_Opd 68 "WideCore$Registers" "d" "I" ∈ WS := WS_at 125 rfl rfl
set_option maxRecDepth 100000 in
theorem q_126 : Cond.fieldLink R_Prc 196 "WideCore$Registers" "d" "I" ∈ WS := WS_at 126 rfl rfl
set_option maxRecDepth 100000 in
theorem q_127 : Cond.fieldLink R_Reg 49 "WideCore$Registers" "d" "I" ∈ WS := WS_at 127 rfl rfl
set_option maxRecDepth 100000 in
theorem q_128 : Cond.fieldLink R_Wc 67 "WideCore$Registers" "dataBank" "I" ∈ WS := WS_at 128 rfl rfl
set_option maxRecDepth 100000 in
theorem q_129 : Cond.fieldLink R_Opd 77 "WideCore$Registers" "dataBank" "I" ∈ WS := WS_at 129 rfl rfl
set_option maxRecDepth 100000 in
theorem q_130 : Cond.fieldLink R_Prc 205 "WideCore$Registers" "dataBank" "I" ∈ WS := WS_at 130 rfl rfl
set_option maxRecDepth 100000 in
theorem q_131 : Cond.fieldLink R_Reg 52 "WideCore$Registers" "dataBank" "I" ∈ WS := WS_at 131 rfl rfl
set_option maxRecDepth 100000 in
theorem q_132 : Cond.fieldLink R_Prc 97 "WideCore$Registers" "programBank" "I" ∈ WS := WS_at 132 rfl rfl
set_option maxRecDepth 100000 in
theorem q_133 : Cond.fieldLink R_Opd 17 "WideCore$Registers" "programBank" "I" ∈ WS := WS_at 133 rfl rfl
set_option maxRecDepth 100000 in
theorem q_134 : Cond.fieldLink R_Wc 37 "WideCore$Registers" "programBank" "I" ∈ WS := WS_at 134 rfl rfl
set_option maxRecDepth 100000 in
theorem q_135 : Cond.fieldLink R_Reg 58 "WideCore$Registers" "programBank" "I" ∈ WS := WS_at 135 rfl rfl
set_option maxRecDepth 100000 in
theorem q_136 : Cond.fieldLink R_Opd 23 "WideCore$Registers" "pc" "I" ∈ WS := WS_at 136 rfl rfl
set_option maxRecDepth 100000 in
theorem q_137 : Cond.fieldLink R_Prc 103 "WideCore$Registers" "pc" "I" ∈ WS := WS_at 137 rfl rfl
set_option maxRecDepth 100000 in
theorem q_138 : Cond.fieldLink R_Wc 41 "WideCore$Registers" "pc" "I" ∈ WS := WS_at 138 rfl rfl
set_option maxRecDepth 100000 in
theorem q_139 : Cond.fieldLink R_Reg 55 "WideCore$Registers" "pc" "I" ∈ WS := WS_at 139 rfl rfl
set_option maxRecDepth 100000 in
theorem q_140 : Cond.fieldLink R_Reg 13 "WideCore$Registers" "p" "I" ∈ WS := WS_at 140 rfl rfl
set_option maxRecDepth 100000 in
theorem q_141 : Cond.fieldLink R_Prc 109 "WideCore$Registers" "p" "I" ∈ WS := WS_at 141 rfl rfl
set_option maxRecDepth 100000 in
theorem q_142 : Cond.fieldLink R_Wc 74 "WideCore$Registers" "p" "I" ∈ WS := WS_at 142 rfl rfl
set_option maxRecDepth 100000 in
theorem q_143 : Cond.lays R_Reg R_Reg "c" "I" ∈ WS := WS_at 143 rfl rfl
set_option maxRecDepth 100000 in
theorem q_145 : Cond.lays R_Reg R_Reg "x" "I" ∈ WS := WS_at 145 rfl rfl
set_option maxRecDepth 100000 in
theorem q_147 : Cond.lays R_Reg R_Reg "y" "I" ∈ WS := WS_at 147 rfl rfl
set_option maxRecDepth 100000 in
theorem q_149 : Cond.lays R_Reg R_Reg "s" "I" ∈ WS := WS_at 149 rfl rfl
set_option maxRecDepth 100000 in
theorem q_151 : Cond.lays R_Reg R_Reg "d" "I" ∈ WS := WS_at 151 rfl rfl
set_option maxRecDepth 100000 in
theorem q_153 : Cond.lays R_Reg R_Reg "dataBank" "I" ∈ WS := WS_at 153 rfl rfl
set_option maxRecDepth 100000 in
theorem q_155 : Cond.lays R_Reg R_Reg "programBank" "I" ∈ WS := WS_at 155 rfl rfl
set_option maxRecDepth 100000 in
theorem q_157 : Cond.lays R_Reg R_Reg "pc" "I" ∈ WS := WS_at 157 rfl rfl
set_option maxRecDepth 100000 in
theorem q_159 : Cond.lays R_Reg R_Reg "p" "I" ∈ WS := WS_at 159 rfl rfl
set_option maxRecDepth 100000 in
theorem q_162 : Cond.classLink R_Wc 23 R_Prc ∈ WS := WS_at 162 rfl rfl
set_option maxRecDepth 100000 in
theorem q_163 : Cond.instantiable R_Prc 8 ∈ WS := WS_at 163 rfl rfl
set_option maxRecDepth 100000 in
theorem q_164 : Cond.methodLink R_Wc 25 y_Prc_init ∈ WS := WS_at 164 rfl rfl
set_option maxRecDepth 100000 in
theorem q_165 : Cond.instanceMethod y_Prc_init ∈ WS := WS_at 165 rfl rfl
set_option maxRecDepth 100000 in
theorem q_166 : Cond.code y_Prc_init b_Prc_init 3 none ∈ WS := WS_at 166 rfl rfl
set_option maxRecDepth 100000 in
theorem q_167 : Cond.methodLink R_Prc 1 objectInit ∈ WS := WS_at 167 rfl rfl
set_option maxRecDepth 100000 in
theorem q_168 : Cond.classLink R_Prc 17 R_Opd ∈ WS := WS_at 168 rfl rfl
set_option maxRecDepth 100000 in
theorem q_169 : Cond.instantiable R_Opd 2 ∈ WS := WS_at 169 rfl rfl
set_option maxRecDepth 100000 in
theorem q_170 : Cond.methodLink R_Prc 19 y_Opd_init ∈ WS := WS_at 170 rfl rfl
set_option maxRecDepth 100000 in
theorem q_171 : Cond.instanceMethod y_Opd_init ∈ WS := WS_at 171 rfl rfl
set_option maxRecDepth 100000 in
theorem q_172 : Cond.code y_Opd_init b_Opd_init 3 none ∈ WS := WS_at 172 rfl rfl
set_option maxRecDepth 100000 in
theorem q_173 : Cond.methodLink R_Opd 1 objectInit ∈ WS := WS_at 173 rfl rfl
set_option maxRecDepth 100000 in
theorem q_174 : Cond.fieldLink R_Opd 7 "WideCore$Operands" "bus" "LWideCore$Bus;" ∈ WS := WS_at 174 rfl rfl
set_option maxRecDepth 100000 in
theorem q_175 : Cond.fieldLink R_Opd 13 "WideCore$Operands" "\x72" "LWideCore$Registers;" ∈ WS := WS_at 175 rfl rfl
set_option maxRecDepth 100000 in
theorem q_176 : Cond.laysFinal R_Opd R_Opd "bus" "LWideCore$Bus;" ∈ WS := WS_at 176 rfl rfl
set_option maxRecDepth 100000 in
theorem q_178 : Cond.laysFinal R_Opd R_Opd "\x72" "LWideCore$Registers;" ∈ WS := WS_at 178 rfl rfl
set_option maxRecDepth 100000 in
theorem q_181 : Cond.classLink R_Prc 26 R_Stk ∈ WS := WS_at 181 rfl rfl
set_option maxRecDepth 100000 in
theorem q_182 : Cond.instantiable R_Stk 2 ∈ WS := WS_at 182 rfl rfl
set_option maxRecDepth 100000 in
theorem q_183 : Cond.methodLink R_Prc 28 y_Stk_init ∈ WS := WS_at 183 rfl rfl
set_option maxRecDepth 100000 in
theorem q_184 : Cond.instanceMethod y_Stk_init ∈ WS := WS_at 184 rfl rfl
set_option maxRecDepth 100000 in
theorem q_185 : Cond.code y_Stk_init b_Stk_init 3 none ∈ WS := WS_at 185 rfl rfl
set_option maxRecDepth 100000 in
theorem q_186 : Cond.methodLink R_Stk 1 objectInit ∈ WS := WS_at 186 rfl rfl
set_option maxRecDepth 100000 in
theorem q_187 : Cond.fieldLink R_Stk 7 "WideCore$Stack" "bus" "LWideCore$Bus;" ∈ WS := WS_at 187 rfl rfl
set_option maxRecDepth 100000 in
theorem q_188 : Cond.fieldLink R_Stk 13 "WideCore$Stack" "\x72" "LWideCore$Registers;" ∈ WS := WS_at 188 rfl rfl
set_option maxRecDepth 100000 in
theorem q_189 : Cond.laysFinal R_Stk R_Stk "bus" "LWideCore$Bus;" ∈ WS := WS_at 189 rfl rfl
set_option maxRecDepth 100000 in
theorem q_191 : Cond.laysFinal R_Stk R_Stk "\x72" "LWideCore$Registers;" ∈ WS := WS_at 191 rfl rfl
set_option maxRecDepth 100000 in
theorem q_194 : Cond.fieldLink R_Prc 7 "WideCore$Processor" "bus" "LWideCore$Bus;" ∈ WS := WS_at 194 rfl rfl
set_option maxRecDepth 100000 in
theorem q_195 : Cond.fieldLink R_Prc 13 "WideCore$Processor" "\x72" "LWideCore$Registers;" ∈ WS := WS_at 195 rfl rfl
set_option maxRecDepth 100000 in
theorem q_196 : Cond.fieldLink R_Prc 22 "WideCore$Processor" "operands" "LWideCore$Operands;" ∈ WS := WS_at 196 rfl rfl
set_option maxRecDepth 100000 in
theorem q_197 : Cond.fieldLink R_Prc 29 "WideCore$Processor" "stack" "LWideCore$Stack;" ∈ WS := WS_at 197 rfl rfl
set_option maxRecDepth 100000 in
theorem q_198 : Cond.fieldLink R_Prc 37 "WideCore$Processor" "nmiCalled" "Z" ∈ WS := WS_at 198 rfl rfl
set_option maxRecDepth 100000 in
theorem q_199 : Cond.fieldLink R_Wc 80 "WideCore$Processor" "nmiCalled" "Z" ∈ WS := WS_at 199 rfl rfl
set_option maxRecDepth 100000 in
theorem q_200 : Cond.fieldLink R_Prc 45 "WideCore$Processor" "irqCalled" "Z" ∈ WS := WS_at 200 rfl rfl
set_option maxRecDepth 100000 in
theorem q_201 : Cond.fieldLink R_Wc 83 "WideCore$Processor" "irqCalled" "Z" ∈ WS := WS_at 201 rfl rfl
set_option maxRecDepth 100000 in
theorem q_202 : Cond.fieldLink R_Prc 94 "WideCore$Processor" "halted" "Z" ∈ WS := WS_at 202 rfl rfl
set_option maxRecDepth 100000 in
theorem q_203 : Cond.fieldLink R_Wc 44 "WideCore$Processor" "halted" "Z" ∈ WS := WS_at 203 rfl rfl
set_option maxRecDepth 100000 in
theorem q_204 : Cond.fieldLink R_Prc 33 "WideCore$Processor" "stepCount" "I" ∈ WS := WS_at 204 rfl rfl
set_option maxRecDepth 100000 in
theorem q_205 : Cond.fieldLink R_Wc 93 "WideCore$Processor" "stepCount" "I" ∈ WS := WS_at 205 rfl rfl
set_option maxRecDepth 100000 in
theorem q_206 : Cond.laysFinal R_Prc R_Prc "bus" "LWideCore$Bus;" ∈ WS := WS_at 206 rfl rfl
set_option maxRecDepth 100000 in
theorem q_208 : Cond.laysFinal R_Prc R_Prc "\x72" "LWideCore$Registers;" ∈ WS := WS_at 208 rfl rfl
set_option maxRecDepth 100000 in
theorem q_210 : Cond.laysFinal R_Prc R_Prc "operands" "LWideCore$Operands;" ∈ WS := WS_at 210 rfl rfl
set_option maxRecDepth 100000 in
theorem q_212 : Cond.laysFinal R_Prc R_Prc "stack" "LWideCore$Stack;" ∈ WS := WS_at 212 rfl rfl
set_option maxRecDepth 100000 in
theorem q_214 : Cond.lays R_Prc R_Prc "nmiCalled" "Z" ∈ WS := WS_at 214 rfl rfl
set_option maxRecDepth 100000 in
theorem q_216 : Cond.lays R_Prc R_Prc "irqCalled" "Z" ∈ WS := WS_at 216 rfl rfl
set_option maxRecDepth 100000 in
theorem q_218 : Cond.lays R_Prc R_Prc "halted" "Z" ∈ WS := WS_at 218 rfl rfl
set_option maxRecDepth 100000 in
theorem q_220 : Cond.lays R_Prc R_Prc "stepCount" "I" ∈ WS := WS_at 220 rfl rfl
set_option maxRecDepth 100000 in
theorem q_223 : Cond.fieldLink R_Wc 10 "WideCore" "bus" "LWideCore$Bus;" ∈ WS := WS_at 223 rfl rfl
set_option maxRecDepth 100000 in
theorem q_224 : Cond.fieldLink R_Wc 19 "WideCore" "registers" "LWideCore$Registers;" ∈ WS := WS_at 224 rfl rfl
set_option maxRecDepth 100000 in
theorem q_225 : Cond.fieldLink R_Wc 28 "WideCore" "processor" "LWideCore$Processor;" ∈ WS := WS_at 225 rfl rfl
set_option maxRecDepth 100000 in
theorem q_226 : Cond.laysFinal R_Wc R_Wc "bus" "LWideCore$Bus;" ∈ WS := WS_at 226 rfl rfl
set_option maxRecDepth 100000 in
theorem q_228 : Cond.laysFinal R_Wc R_Wc "registers" "LWideCore$Registers;" ∈ WS := WS_at 228 rfl rfl
set_option maxRecDepth 100000 in
theorem q_230 : Cond.laysFinal R_Wc R_Wc "processor" "LWideCore$Processor;" ∈ WS := WS_at 230 rfl rfl
set_option maxRecDepth 100000 in
theorem q_233 : Cond.methodLink R_Law 13 y_Wc_poke ∈ WS := WS_at 233 rfl rfl
set_option maxRecDepth 100000 in
theorem q_234 : Cond.instanceMethod y_Wc_poke ∈ WS := WS_at 234 rfl rfl
set_option maxRecDepth 100000 in
theorem q_235 : Cond.selects R_Wc y_Wc_poke y_Wc_poke ∈ WS := WS_at 235 rfl rfl
set_option maxRecDepth 100000 in
theorem q_236 : Cond.code y_Wc_poke b_Wc_poke 5 (some .boolean) ∈ WS := WS_at 236 rfl rfl
set_option maxRecDepth 100000 in
theorem q_237 : Cond.methodLink R_Law 18 y_Wc_peek ∈ WS := WS_at 237 rfl rfl
set_option maxRecDepth 100000 in
theorem q_238 : Cond.instanceMethod y_Wc_peek ∈ WS := WS_at 238 rfl rfl
set_option maxRecDepth 100000 in
theorem q_239 : Cond.selects R_Wc y_Wc_peek y_Wc_peek ∈ WS := WS_at 239 rfl rfl
set_option maxRecDepth 100000 in
theorem q_240 : Cond.code y_Wc_peek b_Wc_peek 2 (some .int) ∈ WS := WS_at 240 rfl rfl
set_option maxRecDepth 100000 in
theorem q_241 : Cond.methodLink R_Law 23 y_Wc_start ∈ WS := WS_at 241 rfl rfl
set_option maxRecDepth 100000 in
theorem q_242 : Cond.instanceMethod y_Wc_start ∈ WS := WS_at 242 rfl rfl
set_option maxRecDepth 100000 in
theorem q_243 : Cond.selects R_Wc y_Wc_start y_Wc_start ∈ WS := WS_at 243 rfl rfl
set_option maxRecDepth 100000 in
theorem q_244 : Cond.code y_Wc_start b_Wc_start 3 (some .boolean) ∈ WS := WS_at 244 rfl rfl
set_option maxRecDepth 100000 in
theorem q_245 : Cond.constant R_Wc 36 65535 ∈ WS := WS_at 245 rfl rfl
set_option maxRecDepth 100000 in
theorem q_246 : Cond.methodLink R_Law 28 y_Wc_set ∈ WS := WS_at 246 rfl rfl
set_option maxRecDepth 100000 in
theorem q_247 : Cond.instanceMethod y_Wc_set ∈ WS := WS_at 247 rfl rfl
set_option maxRecDepth 100000 in
theorem q_248 : Cond.selects R_Wc y_Wc_set y_Wc_set ∈ WS := WS_at 248 rfl rfl
set_option maxRecDepth 100000 in
theorem q_249 : Cond.code y_Wc_set b_Wc_set 3 (some .boolean) ∈ WS := WS_at 249 rfl rfl
set_option maxRecDepth 100000 in
theorem q_250 : Cond.methodLink R_Wc 51 y_Reg_indexMask ∈ WS := WS_at 250 rfl rfl
set_option maxRecDepth 100000 in
theorem q_251 : Cond.instanceMethod y_Reg_indexMask ∈ WS := WS_at 251 rfl rfl
set_option maxRecDepth 100000 in
theorem q_252 : Cond.selects R_Reg y_Reg_indexMask y_Reg_indexMask ∈ WS := WS_at 252 rfl rfl
set_option maxRecDepth 100000 in
theorem q_253 : Cond.code y_Reg_indexMask b_Reg_indexMask 1 (some .int) ∈ WS := WS_at 253 rfl rfl
set_option maxRecDepth 100000 in
theorem q_254 : Cond.methodLink R_Reg 18 y_Reg_wideIndex ∈ WS := WS_at 254 rfl rfl
set_option maxRecDepth 100000 in
theorem q_255 : Cond.instanceMethod y_Reg_wideIndex ∈ WS := WS_at 255 rfl rfl
set_option maxRecDepth 100000 in
theorem q_256 : Cond.selects R_Reg y_Reg_wideIndex y_Reg_wideIndex ∈ WS := WS_at 256 rfl rfl
set_option maxRecDepth 100000 in
theorem q_257 : Cond.code y_Reg_wideIndex b_Reg_wideIndex 1 (some .boolean) ∈ WS := WS_at 257 rfl rfl
set_option maxRecDepth 100000 in
theorem q_258 : Cond.methodLink R_Reg 22 y_Reg_maskOf ∈ WS := WS_at 258 rfl rfl
set_option maxRecDepth 100000 in
theorem q_259 : Cond.static y_Reg_maskOf ∈ WS := WS_at 259 rfl rfl
set_option maxRecDepth 100000 in
theorem q_260 : Cond.code y_Reg_maskOf b_Reg_maskOf 1 (some .int) ∈ WS := WS_at 260 rfl rfl
set_option maxRecDepth 100000 in
theorem q_261 : Cond.constant R_Reg 16 65535 ∈ WS := WS_at 261 rfl rfl
set_option maxRecDepth 100000 in
theorem q_262 : Cond.methodLink R_Wc 70 y_Reg_replaceP ∈ WS := WS_at 262 rfl rfl
set_option maxRecDepth 100000 in
theorem q_263 : Cond.instanceMethod y_Reg_replaceP ∈ WS := WS_at 263 rfl rfl
set_option maxRecDepth 100000 in
theorem q_264 : Cond.selects R_Reg y_Reg_replaceP y_Reg_replaceP ∈ WS := WS_at 264 rfl rfl
set_option maxRecDepth 100000 in
theorem q_265 : Cond.code y_Reg_replaceP b_Reg_replaceP 2 none ∈ WS := WS_at 265 rfl rfl
set_option maxRecDepth 100000 in
theorem q_266 : Cond.methodLink R_Reg 35 y_Reg_indexMask ∈ WS := WS_at 266 rfl rfl
set_option maxRecDepth 100000 in
theorem q_267 : Cond.methodLink R_Law 32 y_Wc_register ∈ WS := WS_at 267 rfl rfl
set_option maxRecDepth 100000 in
theorem q_268 : Cond.instanceMethod y_Wc_register ∈ WS := WS_at 268 rfl rfl
set_option maxRecDepth 100000 in
theorem q_269 : Cond.selects R_Wc y_Wc_register y_Wc_register ∈ WS := WS_at 269 rfl rfl
set_option maxRecDepth 100000 in
theorem q_270 : Cond.code y_Wc_register b_Wc_register 2 (some .int) ∈ WS := WS_at 270 rfl rfl
set_option maxRecDepth 100000 in
theorem q_271 : Cond.methodLink R_Law 36 y_Wc_run ∈ WS := WS_at 271 rfl rfl
set_option maxRecDepth 100000 in
theorem q_272 : Cond.instanceMethod y_Wc_run ∈ WS := WS_at 272 rfl rfl
set_option maxRecDepth 100000 in
theorem q_273 : Cond.selects R_Wc y_Wc_run y_Wc_run ∈ WS := WS_at 273 rfl rfl
set_option maxRecDepth 100000 in
theorem q_274 : Cond.code y_Wc_run b_Wc_run 3 (some .int) ∈ WS := WS_at 274 rfl rfl
set_option maxRecDepth 100000 in
theorem q_275 : Cond.methodLink R_Wc 77 y_Prc_makeStep ∈ WS := WS_at 275 rfl rfl
set_option maxRecDepth 100000 in
theorem q_276 : Cond.instanceMethod y_Prc_makeStep ∈ WS := WS_at 276 rfl rfl
set_option maxRecDepth 100000 in
theorem q_277 : Cond.selects R_Prc y_Prc_makeStep y_Prc_makeStep ∈ WS := WS_at 277 rfl rfl
set_option maxRecDepth 100000 in
theorem q_278 : Cond.code y_Prc_makeStep b_Prc_makeStep 3 none ∈ WS := WS_at 278 rfl rfl
set_option maxRecDepth 100000 in
theorem q_279 : Cond.methodLink R_Prc 41 y_Prc_enterInterrupt ∈ WS := WS_at 279 rfl rfl
set_option maxRecDepth 100000 in
theorem q_281 : Cond.instanceMethod y_Prc_enterInterrupt ∈ WS := WS_at 281 rfl rfl
set_option maxRecDepth 100000 in
theorem q_282 : Cond.code y_Prc_enterInterrupt b_Prc_enterInterrupt 2 none ∈ WS := WS_at 282 rfl rfl
set_option maxRecDepth 100000 in
theorem q_283 : Cond.methodLink R_Prc 100 y_Stk_pushByte ∈ WS := WS_at 283 rfl rfl
set_option maxRecDepth 100000 in
theorem q_284 : Cond.instanceMethod y_Stk_pushByte ∈ WS := WS_at 284 rfl rfl
set_option maxRecDepth 100000 in
theorem q_285 : Cond.selects R_Stk y_Stk_pushByte y_Stk_pushByte ∈ WS := WS_at 285 rfl rfl
set_option maxRecDepth 100000 in
theorem q_286 : Cond.code y_Stk_pushByte b_Stk_pushByte 2 none ∈ WS := WS_at 286 rfl rfl
set_option maxRecDepth 100000 in
theorem q_287 : Cond.methodLink R_Stk 23 y_Bus_bank0Place ∈ WS := WS_at 287 rfl rfl
set_option maxRecDepth 100000 in
theorem q_288 : Cond.static y_Bus_bank0Place ∈ WS := WS_at 288 rfl rfl
set_option maxRecDepth 100000 in
theorem q_289 : Cond.code y_Bus_bank0Place b_Bus_bank0Place 1 (some .int) ∈ WS := WS_at 289 rfl rfl
set_option maxRecDepth 100000 in
theorem q_290 : Cond.constant R_Bus 18 16777216 ∈ WS := WS_at 290 rfl rfl
set_option maxRecDepth 100000 in
theorem q_291 : Cond.constant R_Bus 19 65535 ∈ WS := WS_at 291 rfl rfl
set_option maxRecDepth 100000 in
theorem q_292 : Cond.methodLink R_Stk 29 y_Bus_writeByte ∈ WS := WS_at 292 rfl rfl
set_option maxRecDepth 100000 in
theorem q_293 : Cond.instanceMethod y_Bus_writeByte ∈ WS := WS_at 293 rfl rfl
set_option maxRecDepth 100000 in
theorem q_294 : Cond.selects R_Bus y_Bus_writeByte y_Bus_writeByte ∈ WS := WS_at 294 rfl rfl
set_option maxRecDepth 100000 in
theorem q_295 : Cond.code y_Bus_writeByte b_Bus_writeByte 4 none ∈ WS := WS_at 295 rfl rfl
set_option maxRecDepth 100000 in
theorem q_296 : Cond.methodLink R_Bus 27 y_Bus_cellOf ∈ WS := WS_at 296 rfl rfl
set_option maxRecDepth 100000 in
theorem q_297 : Cond.static y_Bus_cellOf ∈ WS := WS_at 297 rfl rfl
set_option maxRecDepth 100000 in
theorem q_298 : Cond.code y_Bus_cellOf b_Bus_cellOf 1 (some .int) ∈ WS := WS_at 298 rfl rfl
set_option maxRecDepth 100000 in
theorem q_299 : Cond.constant R_Stk 33 65535 ∈ WS := WS_at 299 rfl rfl
set_option maxRecDepth 100000 in
theorem q_300 : Cond.methodLink R_Prc 106 y_Stk_pushWord ∈ WS := WS_at 300 rfl rfl
set_option maxRecDepth 100000 in
theorem q_301 : Cond.instanceMethod y_Stk_pushWord ∈ WS := WS_at 301 rfl rfl
set_option maxRecDepth 100000 in
theorem q_302 : Cond.selects R_Stk y_Stk_pushWord y_Stk_pushWord ∈ WS := WS_at 302 rfl rfl
set_option maxRecDepth 100000 in
theorem q_303 : Cond.code y_Stk_pushWord b_Stk_pushWord 2 none ∈ WS := WS_at 303 rfl rfl
set_option maxRecDepth 100000 in
theorem q_304 : Cond.methodLink R_Stk 34 y_Stk_pushByte ∈ WS := WS_at 304 rfl rfl
set_option maxRecDepth 100000 in
theorem q_305 : Cond.methodLink R_Prc 112 y_Reg_putFlag ∈ WS := WS_at 305 rfl rfl
set_option maxRecDepth 100000 in
theorem q_306 : Cond.instanceMethod y_Reg_putFlag ∈ WS := WS_at 306 rfl rfl
set_option maxRecDepth 100000 in
theorem q_307 : Cond.selects R_Reg y_Reg_putFlag y_Reg_putFlag ∈ WS := WS_at 307 rfl rfl
set_option maxRecDepth 100000 in
theorem q_308 : Cond.code y_Reg_putFlag b_Reg_putFlag 3 none ∈ WS := WS_at 308 rfl rfl
set_option maxRecDepth 100000 in
theorem q_309 : Cond.methodLink R_Prc 116 y_Bus_bank0Place ∈ WS := WS_at 309 rfl rfl
set_option maxRecDepth 100000 in
theorem q_310 : Cond.methodLink R_Prc 122 y_Bus_readWord ∈ WS := WS_at 310 rfl rfl
set_option maxRecDepth 100000 in
theorem q_311 : Cond.instanceMethod y_Bus_readWord ∈ WS := WS_at 311 rfl rfl
set_option maxRecDepth 100000 in
theorem q_312 : Cond.selects R_Bus y_Bus_readWord y_Bus_readWord ∈ WS := WS_at 312 rfl rfl
set_option maxRecDepth 100000 in
theorem q_313 : Cond.code y_Bus_readWord b_Bus_readWord 3 (some .int) ∈ WS := WS_at 313 rfl rfl
set_option maxRecDepth 100000 in
theorem q_314 : Cond.methodLink R_Bus 34 y_Bus_readByte ∈ WS := WS_at 314 rfl rfl
set_option maxRecDepth 100000 in
theorem q_315 : Cond.instanceMethod y_Bus_readByte ∈ WS := WS_at 315 rfl rfl
set_option maxRecDepth 100000 in
theorem q_316 : Cond.selects R_Bus y_Bus_readByte y_Bus_readByte ∈ WS := WS_at 316 rfl rfl
set_option maxRecDepth 100000 in
theorem q_317 : Cond.code y_Bus_readByte b_Bus_readByte 3 (some .int) ∈ WS := WS_at 317 rfl rfl
set_option maxRecDepth 100000 in
theorem q_318 : Cond.methodLink R_Bus 37 y_Bus_placeAfter ∈ WS := WS_at 318 rfl rfl
set_option maxRecDepth 100000 in
theorem q_319 : Cond.static y_Bus_placeAfter ∈ WS := WS_at 319 rfl rfl
set_option maxRecDepth 100000 in
theorem q_320 : Cond.code y_Bus_placeAfter b_Bus_placeAfter 1 (some .int) ∈ WS := WS_at 320 rfl rfl
set_option maxRecDepth 100000 in
theorem q_321 : Cond.methodLink R_Bus 20 y_Bus_bank0Place ∈ WS := WS_at 321 rfl rfl
set_option maxRecDepth 100000 in
theorem q_322 : Cond.methodLink R_Bus 24 y_Bus_longPlace ∈ WS := WS_at 322 rfl rfl
set_option maxRecDepth 100000 in
theorem q_323 : Cond.static y_Bus_longPlace ∈ WS := WS_at 323 rfl rfl
set_option maxRecDepth 100000 in
theorem q_324 : Cond.code y_Bus_longPlace b_Bus_longPlace 1 (some .int) ∈ WS := WS_at 324 rfl rfl
set_option maxRecDepth 100000 in
theorem q_325 : Cond.constant R_Bus 17 16777215 ∈ WS := WS_at 325 rfl rfl
set_option maxRecDepth 100000 in
theorem q_326 : Cond.methodLink R_Prc 50 y_Reg_has ∈ WS := WS_at 326 rfl rfl
set_option maxRecDepth 100000 in
theorem q_327 : Cond.instanceMethod y_Reg_has ∈ WS := WS_at 327 rfl rfl
set_option maxRecDepth 100000 in
theorem q_328 : Cond.selects R_Reg y_Reg_has y_Reg_has ∈ WS := WS_at 328 rfl rfl
set_option maxRecDepth 100000 in
theorem q_329 : Cond.code y_Reg_has b_Reg_has 2 (some .boolean) ∈ WS := WS_at 329 rfl rfl
set_option maxRecDepth 100000 in
theorem q_330 : Cond.methodLink R_Prc 54 y_Opd_nextByte ∈ WS := WS_at 330 rfl rfl
set_option maxRecDepth 100000 in
theorem q_331 : Cond.instanceMethod y_Opd_nextByte ∈ WS := WS_at 331 rfl rfl
set_option maxRecDepth 100000 in
theorem q_332 : Cond.selects R_Opd y_Opd_nextByte y_Opd_nextByte ∈ WS := WS_at 332 rfl rfl
set_option maxRecDepth 100000 in
theorem q_333 : Cond.code y_Opd_nextByte b_Opd_nextByte 2 (some .int) ∈ WS := WS_at 333 rfl rfl
set_option maxRecDepth 100000 in
theorem q_334 : Cond.methodLink R_Opd 26 y_Bus_programByte ∈ WS := WS_at 334 rfl rfl
set_option maxRecDepth 100000 in
theorem q_335 : Cond.instanceMethod y_Bus_programByte ∈ WS := WS_at 335 rfl rfl
set_option maxRecDepth 100000 in
theorem q_336 : Cond.selects R_Bus y_Bus_programByte y_Bus_programByte ∈ WS := WS_at 336 rfl rfl
set_option maxRecDepth 100000 in
theorem q_337 : Cond.code y_Bus_programByte b_Bus_programByte 3 (some .int) ∈ WS := WS_at 337 rfl rfl
set_option maxRecDepth 100000 in
theorem q_338 : Cond.constant R_Opd 32 65535 ∈ WS := WS_at 338 rfl rfl
set_option maxRecDepth 100000 in
theorem q_339 : Cond.methodLink R_Prc 58 y_Prc_useAccumulator ∈ WS := WS_at 339 rfl rfl
set_option maxRecDepth 100000 in
theorem q_341 : Cond.instanceMethod y_Prc_useAccumulator ∈ WS := WS_at 341 rfl rfl
set_option maxRecDepth 100000 in
theorem q_342 : Cond.code y_Prc_useAccumulator b_Prc_useAccumulator 6 (some .boolean) ∈ WS := WS_at 342 rfl rfl
set_option maxRecDepth 100000 in
theorem q_343 : Cond.methodLink R_Prc 125 y_Opd_isMode ∈ WS := WS_at 343 rfl rfl
set_option maxRecDepth 100000 in
theorem q_344 : Cond.static y_Opd_isMode ∈ WS := WS_at 344 rfl rfl
set_option maxRecDepth 100000 in
theorem q_345 : Cond.code y_Opd_isMode b_Opd_isMode 1 (some .boolean) ∈ WS := WS_at 345 rfl rfl
set_option maxRecDepth 100000 in
theorem q_346 : Cond.methodLink R_Prc 128 y_Reg_wideA ∈ WS := WS_at 346 rfl rfl
set_option maxRecDepth 100000 in
theorem q_347 : Cond.instanceMethod y_Reg_wideA ∈ WS := WS_at 347 rfl rfl
set_option maxRecDepth 100000 in
theorem q_348 : Cond.selects R_Reg y_Reg_wideA y_Reg_wideA ∈ WS := WS_at 348 rfl rfl
set_option maxRecDepth 100000 in
theorem q_349 : Cond.code y_Reg_wideA b_Reg_wideA 1 (some .boolean) ∈ WS := WS_at 349 rfl rfl
set_option maxRecDepth 100000 in
theorem q_350 : Cond.methodLink R_Prc 132 y_Opd_place ∈ WS := WS_at 350 rfl rfl
set_option maxRecDepth 100000 in
theorem q_351 : Cond.instanceMethod y_Opd_place ∈ WS := WS_at 351 rfl rfl
set_option maxRecDepth 100000 in
theorem q_352 : Cond.selects R_Opd y_Opd_place y_Opd_place ∈ WS := WS_at 352 rfl rfl
set_option maxRecDepth 100000 in
theorem q_353 : Cond.code y_Opd_place b_Opd_place 2 (some .int) ∈ WS := WS_at 353 rfl rfl
set_option maxRecDepth 100000 in
theorem q_354 : Cond.methodLink R_Opd 40 y_Opd_direct ∈ WS := WS_at 354 rfl rfl
set_option maxRecDepth 100000 in
theorem q_356 : Cond.instanceMethod y_Opd_direct ∈ WS := WS_at 356 rfl rfl
set_option maxRecDepth 100000 in
theorem q_357 : Cond.code y_Opd_direct b_Opd_direct 2 (some .int) ∈ WS := WS_at 357 rfl rfl
set_option maxRecDepth 100000 in
theorem q_358 : Cond.methodLink R_Opd 33 y_Opd_nextByte ∈ WS := WS_at 358 rfl rfl
set_option maxRecDepth 100000 in
theorem q_359 : Cond.methodLink R_Opd 71 y_Bus_bank0Place ∈ WS := WS_at 359 rfl rfl
set_option maxRecDepth 100000 in
theorem q_360 : Cond.methodLink R_Opd 37 y_Opd_nextWord ∈ WS := WS_at 360 rfl rfl
set_option maxRecDepth 100000 in
theorem q_361 : Cond.instanceMethod y_Opd_nextWord ∈ WS := WS_at 361 rfl rfl
set_option maxRecDepth 100000 in
theorem q_362 : Cond.selects R_Opd y_Opd_nextWord y_Opd_nextWord ∈ WS := WS_at 362 rfl rfl
set_option maxRecDepth 100000 in
theorem q_363 : Cond.code y_Opd_nextWord b_Opd_nextWord 2 (some .int) ∈ WS := WS_at 363 rfl rfl
set_option maxRecDepth 100000 in
theorem q_364 : Cond.methodLink R_Opd 47 y_Opd_inDataBank ∈ WS := WS_at 364 rfl rfl
set_option maxRecDepth 100000 in
theorem q_366 : Cond.instanceMethod y_Opd_inDataBank ∈ WS := WS_at 366 rfl rfl
set_option maxRecDepth 100000 in
theorem q_367 : Cond.code y_Opd_inDataBank b_Opd_inDataBank 3 (some .int) ∈ WS := WS_at 367 rfl rfl
set_option maxRecDepth 100000 in
theorem q_368 : Cond.methodLink R_Opd 56 y_Bus_longPlace ∈ WS := WS_at 368 rfl rfl
set_option maxRecDepth 100000 in
theorem q_369 : Cond.methodLink R_Opd 53 y_Opd_nextLong ∈ WS := WS_at 369 rfl rfl
set_option maxRecDepth 100000 in
theorem q_370 : Cond.instanceMethod y_Opd_nextLong ∈ WS := WS_at 370 rfl rfl
set_option maxRecDepth 100000 in
theorem q_371 : Cond.selects R_Opd y_Opd_nextLong y_Opd_nextLong ∈ WS := WS_at 371 rfl rfl
set_option maxRecDepth 100000 in
theorem q_372 : Cond.code y_Opd_nextLong b_Opd_nextLong 3 (some .int) ∈ WS := WS_at 372 rfl rfl
set_option maxRecDepth 100000 in
theorem q_373 : Cond.methodLink R_Opd 59 y_Bus_readWord ∈ WS := WS_at 373 rfl rfl
set_option maxRecDepth 100000 in
theorem q_374 : Cond.methodLink R_Opd 62 y_Bus_readLong ∈ WS := WS_at 374 rfl rfl
set_option maxRecDepth 100000 in
theorem q_375 : Cond.instanceMethod y_Bus_readLong ∈ WS := WS_at 375 rfl rfl
set_option maxRecDepth 100000 in
theorem q_376 : Cond.selects R_Bus y_Bus_readLong y_Bus_readLong ∈ WS := WS_at 376 rfl rfl
set_option maxRecDepth 100000 in
theorem q_377 : Cond.code y_Bus_readLong b_Bus_readLong 5 (some .int) ∈ WS := WS_at 377 rfl rfl
set_option maxRecDepth 100000 in
theorem q_378 : Cond.methodLink R_Opd 65 y_Opd_onStack ∈ WS := WS_at 378 rfl rfl
set_option maxRecDepth 100000 in
theorem q_380 : Cond.instanceMethod y_Opd_onStack ∈ WS := WS_at 380 rfl rfl
set_option maxRecDepth 100000 in
theorem q_381 : Cond.code y_Opd_onStack b_Opd_onStack 1 (some .int) ∈ WS := WS_at 381 rfl rfl
set_option maxRecDepth 100000 in
theorem q_382 : Cond.methodLink R_Prc 138 y_Bus_writeValue ∈ WS := WS_at 382 rfl rfl
set_option maxRecDepth 100000 in
theorem q_383 : Cond.instanceMethod y_Bus_writeValue ∈ WS := WS_at 383 rfl rfl
set_option maxRecDepth 100000 in
theorem q_384 : Cond.selects R_Bus y_Bus_writeValue y_Bus_writeValue ∈ WS := WS_at 384 rfl rfl
set_option maxRecDepth 100000 in
theorem q_385 : Cond.code y_Bus_writeValue b_Bus_writeValue 4 none ∈ WS := WS_at 385 rfl rfl
set_option maxRecDepth 100000 in
theorem q_386 : Cond.methodLink R_Bus 43 y_Bus_writeByte ∈ WS := WS_at 386 rfl rfl
set_option maxRecDepth 100000 in
theorem q_387 : Cond.methodLink R_Prc 142 y_Opd_nextValue ∈ WS := WS_at 387 rfl rfl
set_option maxRecDepth 100000 in
theorem q_388 : Cond.instanceMethod y_Opd_nextValue ∈ WS := WS_at 388 rfl rfl
set_option maxRecDepth 100000 in
theorem q_389 : Cond.selects R_Opd y_Opd_nextValue y_Opd_nextValue ∈ WS := WS_at 389 rfl rfl
set_option maxRecDepth 100000 in
theorem q_390 : Cond.code y_Opd_nextValue b_Opd_nextValue 2 (some .int) ∈ WS := WS_at 390 rfl rfl
set_option maxRecDepth 100000 in
theorem q_391 : Cond.methodLink R_Prc 146 y_Bus_readValue ∈ WS := WS_at 391 rfl rfl
set_option maxRecDepth 100000 in
theorem q_392 : Cond.instanceMethod y_Bus_readValue ∈ WS := WS_at 392 rfl rfl
set_option maxRecDepth 100000 in
theorem q_393 : Cond.selects R_Bus y_Bus_readValue y_Bus_readValue ∈ WS := WS_at 393 rfl rfl
set_option maxRecDepth 100000 in
theorem q_394 : Cond.code y_Bus_readValue b_Bus_readValue 3 (some .int) ∈ WS := WS_at 394 rfl rfl
set_option maxRecDepth 100000 in
theorem q_395 : Cond.methodLink R_Bus 40 y_Bus_readWord ∈ WS := WS_at 395 rfl rfl
set_option maxRecDepth 100000 in
theorem q_396 : Cond.methodLink R_Prc 150 y_Reg_a ∈ WS := WS_at 396 rfl rfl
set_option maxRecDepth 100000 in
theorem q_397 : Cond.instanceMethod y_Reg_a ∈ WS := WS_at 397 rfl rfl
set_option maxRecDepth 100000 in
theorem q_398 : Cond.selects R_Reg y_Reg_a y_Reg_a ∈ WS := WS_at 398 rfl rfl
set_option maxRecDepth 100000 in
theorem q_399 : Cond.code y_Reg_a b_Reg_a 1 (some .int) ∈ WS := WS_at 399 rfl rfl
set_option maxRecDepth 100000 in
theorem q_400 : Cond.methodLink R_Reg 29 y_Reg_wideA ∈ WS := WS_at 400 rfl rfl
set_option maxRecDepth 100000 in
theorem q_401 : Cond.methodLink R_Prc 153 y_Reg_loadA ∈ WS := WS_at 401 rfl rfl
set_option maxRecDepth 100000 in
theorem q_402 : Cond.instanceMethod y_Reg_loadA ∈ WS := WS_at 402 rfl rfl
set_option maxRecDepth 100000 in
theorem q_403 : Cond.selects R_Reg y_Reg_loadA y_Reg_loadA ∈ WS := WS_at 403 rfl rfl
set_option maxRecDepth 100000 in
theorem q_404 : Cond.code y_Reg_loadA b_Reg_loadA 3 none ∈ WS := WS_at 404 rfl rfl
set_option maxRecDepth 100000 in
theorem q_405 : Cond.methodLink R_Reg 45 y_Reg_showResult ∈ WS := WS_at 405 rfl rfl
set_option maxRecDepth 100000 in
theorem q_406 : Cond.instanceMethod y_Reg_showResult ∈ WS := WS_at 406 rfl rfl
set_option maxRecDepth 100000 in
theorem q_407 : Cond.selects R_Reg y_Reg_showResult y_Reg_showResult ∈ WS := WS_at 407 rfl rfl
set_option maxRecDepth 100000 in
theorem q_408 : Cond.code y_Reg_showResult b_Reg_showResult 5 none ∈ WS := WS_at 408 rfl rfl
set_option maxRecDepth 100000 in
theorem q_409 : Cond.methodLink R_Reg 42 y_Reg_signOf ∈ WS := WS_at 409 rfl rfl
set_option maxRecDepth 100000 in
theorem q_410 : Cond.static y_Reg_signOf ∈ WS := WS_at 410 rfl rfl
set_option maxRecDepth 100000 in
theorem q_411 : Cond.code y_Reg_signOf b_Reg_signOf 1 (some .int) ∈ WS := WS_at 411 rfl rfl
set_option maxRecDepth 100000 in
theorem q_412 : Cond.constant R_Reg 17 32768 ∈ WS := WS_at 412 rfl rfl
set_option maxRecDepth 100000 in
theorem q_413 : Cond.methodLink R_Prc 156 y_Prc_addToA ∈ WS := WS_at 413 rfl rfl
set_option maxRecDepth 100000 in
theorem q_415 : Cond.instanceMethod y_Prc_addToA ∈ WS := WS_at 415 rfl rfl
set_option maxRecDepth 100000 in
theorem q_416 : Cond.code y_Prc_addToA b_Prc_addToA 6 none ∈ WS := WS_at 416 rfl rfl
set_option maxRecDepth 100000 in
theorem q_417 : Cond.methodLink R_Prc 165 y_Reg_signOf ∈ WS := WS_at 417 rfl rfl
set_option maxRecDepth 100000 in
theorem q_418 : Cond.methodLink R_Prc 162 y_Reg_maskOf ∈ WS := WS_at 418 rfl rfl
set_option maxRecDepth 100000 in
theorem q_419 : Cond.methodLink R_Prc 159 y_Prc_compare ∈ WS := WS_at 419 rfl rfl
set_option maxRecDepth 100000 in
theorem q_421 : Cond.instanceMethod y_Prc_compare ∈ WS := WS_at 421 rfl rfl
set_option maxRecDepth 100000 in
theorem q_422 : Cond.code y_Prc_compare b_Prc_compare 4 none ∈ WS := WS_at 422 rfl rfl
set_option maxRecDepth 100000 in
theorem q_423 : Cond.methodLink R_Prc 168 y_Reg_showResult ∈ WS := WS_at 423 rfl rfl
set_option maxRecDepth 100000 in
theorem q_424 : Cond.methodLink R_Prc 61 y_Prc_useIndex ∈ WS := WS_at 424 rfl rfl
set_option maxRecDepth 100000 in
theorem q_426 : Cond.instanceMethod y_Prc_useIndex ∈ WS := WS_at 426 rfl rfl
set_option maxRecDepth 100000 in
theorem q_427 : Cond.code y_Prc_useIndex b_Prc_useIndex 3 (some .boolean) ∈ WS := WS_at 427 rfl rfl
set_option maxRecDepth 100000 in
theorem q_428 : Cond.methodLink R_Prc 171 y_Reg_wideIndex ∈ WS := WS_at 428 rfl rfl
set_option maxRecDepth 100000 in
theorem q_429 : Cond.methodLink R_Prc 174 y_Reg_loadX ∈ WS := WS_at 429 rfl rfl
set_option maxRecDepth 100000 in
theorem q_430 : Cond.instanceMethod y_Reg_loadX ∈ WS := WS_at 430 rfl rfl
set_option maxRecDepth 100000 in
theorem q_431 : Cond.selects R_Reg y_Reg_loadX y_Reg_loadX ∈ WS := WS_at 431 rfl rfl
set_option maxRecDepth 100000 in
theorem q_432 : Cond.code y_Reg_loadX b_Reg_loadX 2 none ∈ WS := WS_at 432 rfl rfl
set_option maxRecDepth 100000 in
theorem q_433 : Cond.methodLink R_Prc 177 y_Reg_loadY ∈ WS := WS_at 433 rfl rfl
set_option maxRecDepth 100000 in
theorem q_434 : Cond.instanceMethod y_Reg_loadY ∈ WS := WS_at 434 rfl rfl
set_option maxRecDepth 100000 in
theorem q_435 : Cond.selects R_Reg y_Reg_loadY y_Reg_loadY ∈ WS := WS_at 435 rfl rfl
set_option maxRecDepth 100000 in
theorem q_436 : Cond.code y_Reg_loadY b_Reg_loadY 2 none ∈ WS := WS_at 436 rfl rfl
set_option maxRecDepth 100000 in
theorem q_437 : Cond.methodLink R_Prc 64 y_Prc_storeZero ∈ WS := WS_at 437 rfl rfl
set_option maxRecDepth 100000 in
theorem q_439 : Cond.instanceMethod y_Prc_storeZero ∈ WS := WS_at 439 rfl rfl
set_option maxRecDepth 100000 in
theorem q_440 : Cond.code y_Prc_storeZero b_Prc_storeZero 2 (some .boolean) ∈ WS := WS_at 440 rfl rfl
set_option maxRecDepth 100000 in
theorem q_441 : Cond.methodLink R_Prc 67 y_Prc_changeMemory ∈ WS := WS_at 441 rfl rfl
set_option maxRecDepth 100000 in
theorem q_443 : Cond.instanceMethod y_Prc_changeMemory ∈ WS := WS_at 443 rfl rfl
set_option maxRecDepth 100000 in
theorem q_444 : Cond.code y_Prc_changeMemory b_Prc_changeMemory 6 (some .boolean) ∈ WS := WS_at 444 rfl rfl
set_option maxRecDepth 100000 in
theorem q_445 : Cond.methodLink R_Prc 186 y_Prc_changed ∈ WS := WS_at 445 rfl rfl
set_option maxRecDepth 100000 in
theorem q_447 : Cond.instanceMethod y_Prc_changed ∈ WS := WS_at 447 rfl rfl
set_option maxRecDepth 100000 in
theorem q_448 : Cond.code y_Prc_changed b_Prc_changed 7 (some .int) ∈ WS := WS_at 448 rfl rfl
set_option maxRecDepth 100000 in
theorem q_449 : Cond.methodLink R_Prc 70 y_Prc_changeRegister ∈ WS := WS_at 449 rfl rfl
set_option maxRecDepth 100000 in
theorem q_451 : Cond.instanceMethod y_Prc_changeRegister ∈ WS := WS_at 451 rfl rfl
set_option maxRecDepth 100000 in
theorem q_452 : Cond.code y_Prc_changeRegister b_Prc_changeRegister 3 (some .boolean) ∈ WS := WS_at 452 rfl rfl
set_option maxRecDepth 100000 in
theorem q_453 : Cond.methodLink R_Prc 73 y_Prc_transfer ∈ WS := WS_at 453 rfl rfl
set_option maxRecDepth 100000 in
theorem q_455 : Cond.instanceMethod y_Prc_transfer ∈ WS := WS_at 455 rfl rfl
set_option maxRecDepth 100000 in
theorem q_456 : Cond.code y_Prc_transfer b_Prc_transfer 2 (some .boolean) ∈ WS := WS_at 456 rfl rfl
set_option maxRecDepth 100000 in
theorem q_457 : Cond.methodLink R_Prc 193 y_Reg_loadD ∈ WS := WS_at 457 rfl rfl
set_option maxRecDepth 100000 in
theorem q_458 : Cond.instanceMethod y_Reg_loadD ∈ WS := WS_at 458 rfl rfl
set_option maxRecDepth 100000 in
theorem q_459 : Cond.selects R_Reg y_Reg_loadD y_Reg_loadD ∈ WS := WS_at 459 rfl rfl
set_option maxRecDepth 100000 in
theorem q_460 : Cond.code y_Reg_loadD b_Reg_loadD 2 none ∈ WS := WS_at 460 rfl rfl
set_option maxRecDepth 100000 in
theorem q_461 : Cond.methodLink R_Prc 199 y_Reg_loadC ∈ WS := WS_at 461 rfl rfl
set_option maxRecDepth 100000 in
theorem q_462 : Cond.instanceMethod y_Reg_loadC ∈ WS := WS_at 462 rfl rfl
set_option maxRecDepth 100000 in
theorem q_463 : Cond.selects R_Reg y_Reg_loadC y_Reg_loadC ∈ WS := WS_at 463 rfl rfl
set_option maxRecDepth 100000 in
theorem q_464 : Cond.code y_Reg_loadC b_Reg_loadC 2 none ∈ WS := WS_at 464 rfl rfl
set_option maxRecDepth 100000 in
theorem q_465 : Cond.methodLink R_Prc 76 y_Prc_push ∈ WS := WS_at 465 rfl rfl
set_option maxRecDepth 100000 in
theorem q_467 : Cond.instanceMethod y_Prc_push ∈ WS := WS_at 467 rfl rfl
set_option maxRecDepth 100000 in
theorem q_468 : Cond.code y_Prc_push b_Prc_push 2 (some .boolean) ∈ WS := WS_at 468 rfl rfl
set_option maxRecDepth 100000 in
theorem q_469 : Cond.methodLink R_Prc 202 y_Stk_pushValue ∈ WS := WS_at 469 rfl rfl
set_option maxRecDepth 100000 in
theorem q_470 : Cond.instanceMethod y_Stk_pushValue ∈ WS := WS_at 470 rfl rfl
set_option maxRecDepth 100000 in
theorem q_471 : Cond.selects R_Stk y_Stk_pushValue y_Stk_pushValue ∈ WS := WS_at 471 rfl rfl
set_option maxRecDepth 100000 in
theorem q_472 : Cond.code y_Stk_pushValue b_Stk_pushValue 3 none ∈ WS := WS_at 472 rfl rfl
set_option maxRecDepth 100000 in
theorem q_473 : Cond.methodLink R_Prc 208 y_Opd_nextWord ∈ WS := WS_at 473 rfl rfl
set_option maxRecDepth 100000 in
theorem q_474 : Cond.methodLink R_Prc 79 y_Prc_pull ∈ WS := WS_at 474 rfl rfl
set_option maxRecDepth 100000 in
theorem q_476 : Cond.instanceMethod y_Prc_pull ∈ WS := WS_at 476 rfl rfl
set_option maxRecDepth 100000 in
theorem q_477 : Cond.code y_Prc_pull b_Prc_pull 2 (some .boolean) ∈ WS := WS_at 477 rfl rfl
set_option maxRecDepth 100000 in
theorem q_478 : Cond.methodLink R_Prc 211 y_Stk_pullValue ∈ WS := WS_at 478 rfl rfl
set_option maxRecDepth 100000 in
theorem q_479 : Cond.instanceMethod y_Stk_pullValue ∈ WS := WS_at 479 rfl rfl
set_option maxRecDepth 100000 in
theorem q_480 : Cond.selects R_Stk y_Stk_pullValue y_Stk_pullValue ∈ WS := WS_at 480 rfl rfl
set_option maxRecDepth 100000 in
theorem q_481 : Cond.code y_Stk_pullValue b_Stk_pullValue 2 (some .int) ∈ WS := WS_at 481 rfl rfl
set_option maxRecDepth 100000 in
theorem q_482 : Cond.methodLink R_Stk 45 y_Stk_pullWord ∈ WS := WS_at 482 rfl rfl
set_option maxRecDepth 100000 in
theorem q_483 : Cond.instanceMethod y_Stk_pullWord ∈ WS := WS_at 483 rfl rfl
set_option maxRecDepth 100000 in
theorem q_484 : Cond.selects R_Stk y_Stk_pullWord y_Stk_pullWord ∈ WS := WS_at 484 rfl rfl
set_option maxRecDepth 100000 in
theorem q_485 : Cond.code y_Stk_pullWord b_Stk_pullWord 2 (some .int) ∈ WS := WS_at 485 rfl rfl
set_option maxRecDepth 100000 in
theorem q_486 : Cond.methodLink R_Stk 41 y_Stk_pullByte ∈ WS := WS_at 486 rfl rfl
set_option maxRecDepth 100000 in
theorem q_487 : Cond.instanceMethod y_Stk_pullByte ∈ WS := WS_at 487 rfl rfl
set_option maxRecDepth 100000 in
theorem q_488 : Cond.selects R_Stk y_Stk_pullByte y_Stk_pullByte ∈ WS := WS_at 488 rfl rfl
set_option maxRecDepth 100000 in
theorem q_489 : Cond.code y_Stk_pullByte b_Stk_pullByte 1 (some .int) ∈ WS := WS_at 489 rfl rfl
set_option maxRecDepth 100000 in
theorem q_490 : Cond.methodLink R_Stk 38 y_Bus_readByte ∈ WS := WS_at 490 rfl rfl
set_option maxRecDepth 100000 in
theorem q_491 : Cond.methodLink R_Prc 214 y_Stk_pullWord ∈ WS := WS_at 491 rfl rfl
set_option maxRecDepth 100000 in
theorem q_492 : Cond.methodLink R_Prc 217 y_Stk_pullByte ∈ WS := WS_at 492 rfl rfl
set_option maxRecDepth 100000 in
theorem q_493 : Cond.methodLink R_Prc 220 y_Reg_loadDataBank ∈ WS := WS_at 493 rfl rfl
set_option maxRecDepth 100000 in
theorem q_494 : Cond.instanceMethod y_Reg_loadDataBank ∈ WS := WS_at 494 rfl rfl
set_option maxRecDepth 100000 in
theorem q_495 : Cond.selects R_Reg y_Reg_loadDataBank y_Reg_loadDataBank ∈ WS := WS_at 495 rfl rfl
set_option maxRecDepth 100000 in
theorem q_496 : Cond.code y_Reg_loadDataBank b_Reg_loadDataBank 2 none ∈ WS := WS_at 496 rfl rfl
set_option maxRecDepth 100000 in
theorem q_497 : Cond.methodLink R_Prc 223 y_Reg_replaceP ∈ WS := WS_at 497 rfl rfl
set_option maxRecDepth 100000 in
theorem q_498 : Cond.methodLink R_Prc 82 y_Prc_branch ∈ WS := WS_at 498 rfl rfl
set_option maxRecDepth 100000 in
theorem q_500 : Cond.instanceMethod y_Prc_branch ∈ WS := WS_at 500 rfl rfl
set_option maxRecDepth 100000 in
theorem q_501 : Cond.code y_Prc_branch b_Prc_branch 4 (some .boolean) ∈ WS := WS_at 501 rfl rfl
set_option maxRecDepth 100000 in
theorem q_502 : Cond.methodLink R_Prc 226 y_Reg_jumpTo ∈ WS := WS_at 502 rfl rfl
set_option maxRecDepth 100000 in
theorem q_503 : Cond.instanceMethod y_Reg_jumpTo ∈ WS := WS_at 503 rfl rfl
set_option maxRecDepth 100000 in
theorem q_504 : Cond.selects R_Reg y_Reg_jumpTo y_Reg_jumpTo ∈ WS := WS_at 504 rfl rfl
set_option maxRecDepth 100000 in
theorem q_505 : Cond.code y_Reg_jumpTo b_Reg_jumpTo 2 none ∈ WS := WS_at 505 rfl rfl
set_option maxRecDepth 100000 in
theorem q_506 : Cond.fieldLink R_Prc 229 "WideCore$Processor" "BRANCH_FLAGS" "[I" ∈ WS := WS_at 506 rfl rfl
set_option maxRecDepth 100000 in
theorem q_508 : Cond.methodLink R_Prc 85 y_Prc_jump ∈ WS := WS_at 508 rfl rfl
set_option maxRecDepth 100000 in
theorem q_510 : Cond.instanceMethod y_Prc_jump ∈ WS := WS_at 510 rfl rfl
set_option maxRecDepth 100000 in
theorem q_511 : Cond.code y_Prc_jump b_Prc_jump 3 (some .boolean) ∈ WS := WS_at 511 rfl rfl
set_option maxRecDepth 100000 in
theorem q_512 : Cond.methodLink R_Prc 233 y_Opd_nextLong ∈ WS := WS_at 512 rfl rfl
set_option maxRecDepth 100000 in
theorem q_513 : Cond.methodLink R_Prc 236 y_Reg_jumpLong ∈ WS := WS_at 513 rfl rfl
set_option maxRecDepth 100000 in
theorem q_514 : Cond.instanceMethod y_Reg_jumpLong ∈ WS := WS_at 514 rfl rfl
set_option maxRecDepth 100000 in
theorem q_515 : Cond.selects R_Reg y_Reg_jumpLong y_Reg_jumpLong ∈ WS := WS_at 515 rfl rfl
set_option maxRecDepth 100000 in
theorem q_516 : Cond.code y_Reg_jumpLong b_Reg_jumpLong 2 none ∈ WS := WS_at 516 rfl rfl
set_option maxRecDepth 100000 in
theorem q_517 : Cond.constant R_Prc 239 65535 ∈ WS := WS_at 517 rfl rfl
set_option maxRecDepth 100000 in
theorem q_518 : Cond.methodLink R_Prc 88 y_Prc_changeFlags ∈ WS := WS_at 518 rfl rfl
set_option maxRecDepth 100000 in
theorem q_520 : Cond.instanceMethod y_Prc_changeFlags ∈ WS := WS_at 520 rfl rfl
set_option maxRecDepth 100000 in
theorem q_521 : Cond.code y_Prc_changeFlags b_Prc_changeFlags 2 (some .boolean) ∈ WS := WS_at 521 rfl rfl
set_option maxRecDepth 100000 in
theorem q_522 : Cond.methodLink R_Prc 91 y_Prc_moveBlock ∈ WS := WS_at 522 rfl rfl
set_option maxRecDepth 100000 in
theorem q_524 : Cond.instanceMethod y_Prc_moveBlock ∈ WS := WS_at 524 rfl rfl
set_option maxRecDepth 100000 in
theorem q_525 : Cond.code y_Prc_moveBlock b_Prc_moveBlock 6 (some .boolean) ∈ WS := WS_at 525 rfl rfl
set_option maxRecDepth 100000 in
theorem q_526 : Cond.methodLink R_Prc 240 y_Bus_readByte ∈ WS := WS_at 526 rfl rfl
set_option maxRecDepth 100000 in
theorem q_527 : Cond.methodLink R_Prc 243 y_Bus_writeByte ∈ WS := WS_at 527 rfl rfl
set_option maxRecDepth 100000 in
theorem q_528 : Cond.methodLink R_Prc 247 y_Reg_indexMask ∈ WS := WS_at 528 rfl rfl
set_option maxRecDepth 100000 in
theorem q_529 : Cond.methodLink R_Law 40 y_Wc_stopped ∈ WS := WS_at 529 rfl rfl
set_option maxRecDepth 100000 in
theorem q_530 : Cond.instanceMethod y_Wc_stopped ∈ WS := WS_at 530 rfl rfl
set_option maxRecDepth 100000 in
theorem q_531 : Cond.selects R_Wc y_Wc_stopped y_Wc_stopped ∈ WS := WS_at 531 rfl rfl
set_option maxRecDepth 100000 in
theorem q_532 : Cond.code y_Wc_stopped b_Wc_stopped 1 (some .boolean) ∈ WS := WS_at 532 rfl rfl
set_option maxRecDepth 100000 in
theorem q_533 : Cond.methodLink R_Law 45 y_Wc_interrupt ∈ WS := WS_at 533 rfl rfl
set_option maxRecDepth 100000 in
theorem q_534 : Cond.instanceMethod y_Wc_interrupt ∈ WS := WS_at 534 rfl rfl
set_option maxRecDepth 100000 in
theorem q_535 : Cond.selects R_Wc y_Wc_interrupt y_Wc_interrupt ∈ WS := WS_at 535 rfl rfl
set_option maxRecDepth 100000 in
theorem q_536 : Cond.code y_Wc_interrupt b_Wc_interrupt 1 (some .boolean) ∈ WS := WS_at 536 rfl rfl
set_option maxRecDepth 100000 in
theorem q_537 : Cond.methodLink R_Law 49 y_Wc_line ∈ WS := WS_at 537 rfl rfl
set_option maxRecDepth 100000 in
theorem q_538 : Cond.instanceMethod y_Wc_line ∈ WS := WS_at 538 rfl rfl
set_option maxRecDepth 100000 in
theorem q_539 : Cond.selects R_Wc y_Wc_line y_Wc_line ∈ WS := WS_at 539 rfl rfl
set_option maxRecDepth 100000 in
theorem q_540 : Cond.code y_Wc_line b_Wc_line 2 none ∈ WS := WS_at 540 rfl rfl
set_option maxRecDepth 100000 in
theorem q_541 : Cond.methodLink R_Law 54 y_Wc_touches ∈ WS := WS_at 541 rfl rfl
set_option maxRecDepth 100000 in
theorem q_542 : Cond.instanceMethod y_Wc_touches ∈ WS := WS_at 542 rfl rfl
set_option maxRecDepth 100000 in
theorem q_543 : Cond.selects R_Wc y_Wc_touches y_Wc_touches ∈ WS := WS_at 543 rfl rfl
set_option maxRecDepth 100000 in
theorem q_544 : Cond.code y_Wc_touches b_Wc_touches 1 (some .int) ∈ WS := WS_at 544 rfl rfl
set_option maxRecDepth 100000 in
theorem q_545 : Cond.methodLink R_Law 59 y_Wc_touched ∈ WS := WS_at 545 rfl rfl
set_option maxRecDepth 100000 in
theorem q_546 : Cond.instanceMethod y_Wc_touched ∈ WS := WS_at 546 rfl rfl
set_option maxRecDepth 100000 in
theorem q_547 : Cond.selects R_Wc y_Wc_touched y_Wc_touched ∈ WS := WS_at 547 rfl rfl
set_option maxRecDepth 100000 in
theorem q_548 : Cond.code y_Wc_touched b_Wc_touched 2 (some .int) ∈ WS := WS_at 548 rfl rfl
set_option maxRecDepth 100000 in
theorem q_549 : Cond.methodLink R_Wc 89 y_Bus_latestTouch ∈ WS := WS_at 549 rfl rfl
set_option maxRecDepth 100000 in
theorem q_550 : Cond.instanceMethod y_Bus_latestTouch ∈ WS := WS_at 550 rfl rfl
set_option maxRecDepth 100000 in
theorem q_551 : Cond.selects R_Bus y_Bus_latestTouch y_Bus_latestTouch ∈ WS := WS_at 551 rfl rfl
set_option maxRecDepth 100000 in
theorem q_552 : Cond.code y_Bus_latestTouch b_Bus_latestTouch 2 (some .int) ∈ WS := WS_at 552 rfl rfl
set_option maxRecDepth 100000 in
theorem q_553 : Cond.methodLink R_Law 63 y_Wc_steps ∈ WS := WS_at 553 rfl rfl
set_option maxRecDepth 100000 in
theorem q_554 : Cond.instanceMethod y_Wc_steps ∈ WS := WS_at 554 rfl rfl
set_option maxRecDepth 100000 in
theorem q_555 : Cond.selects R_Wc y_Wc_steps y_Wc_steps ∈ WS := WS_at 555 rfl rfl
set_option maxRecDepth 100000 in
theorem q_556 : Cond.code y_Wc_steps b_Wc_steps 1 (some .int) ∈ WS := WS_at 556 rfl rfl
set_option maxRecDepth 100000 in
theorem q_562 : Cond.methodLink R_Mdl 1 objectInit ∈ WS := WS_at 562 rfl rfl
set_option maxRecDepth 100000 in
theorem q_563 : Cond.fieldLink R_Mdl 7 "WideCoreModel" "memory" "[I" ∈ WS := WS_at 563 rfl rfl
set_option maxRecDepth 100000 in
theorem q_564 : Cond.fieldLink R_Mdl 71 "WideCoreModel" "c" "I" ∈ WS := WS_at 564 rfl rfl
set_option maxRecDepth 100000 in
theorem q_565 : Cond.fieldLink R_Mdl 83 "WideCoreModel" "x" "I" ∈ WS := WS_at 565 rfl rfl
set_option maxRecDepth 100000 in
theorem q_566 : Cond.fieldLink R_Mdl 86 "WideCoreModel" "y" "I" ∈ WS := WS_at 566 rfl rfl
set_option maxRecDepth 100000 in
theorem q_567 : Cond.fieldLink R_Mdl 13 "WideCoreModel" "s" "I" ∈ WS := WS_at 567 rfl rfl
set_option maxRecDepth 100000 in
theorem q_568 : Cond.fieldLink R_Mdl 89 "WideCoreModel" "d" "I" ∈ WS := WS_at 568 rfl rfl
set_option maxRecDepth 100000 in
theorem q_569 : Cond.fieldLink R_Mdl 102 "WideCoreModel" "db" "I" ∈ WS := WS_at 569 rfl rfl
set_option maxRecDepth 100000 in
theorem q_570 : Cond.fieldLink R_Mdl 17 "WideCoreModel" "p" "I" ∈ WS := WS_at 570 rfl rfl
set_option maxRecDepth 100000 in
theorem q_571 : Cond.fieldLink R_Mdl 55 "WideCoreModel" "pb" "I" ∈ WS := WS_at 571 rfl rfl
set_option maxRecDepth 100000 in
theorem q_572 : Cond.fieldLink R_Mdl 58 "WideCoreModel" "pc" "I" ∈ WS := WS_at 572 rfl rfl
set_option maxRecDepth 100000 in
theorem q_573 : Cond.fieldLink R_Mdl 221 "WideCoreModel" "stopped" "Z" ∈ WS := WS_at 573 rfl rfl
set_option maxRecDepth 100000 in
theorem q_574 : Cond.fieldLink R_Mdl 194 "WideCoreModel" "nmi" "Z" ∈ WS := WS_at 574 rfl rfl
set_option maxRecDepth 100000 in
theorem q_575 : Cond.fieldLink R_Mdl 197 "WideCoreModel" "irq" "Z" ∈ WS := WS_at 575 rfl rfl
set_option maxRecDepth 100000 in
theorem q_576 : Cond.fieldLink R_Mdl 191 "WideCoreModel" "steps" "I" ∈ WS := WS_at 576 rfl rfl
set_option maxRecDepth 100000 in
theorem q_577 : Cond.fieldLink R_Mdl 23 "WideCoreModel" "touches" "I" ∈ WS := WS_at 577 rfl rfl
set_option maxRecDepth 100000 in
theorem q_578 : Cond.fieldLink R_Mdl 20 "WideCoreModel" "latest" "[I" ∈ WS := WS_at 578 rfl rfl
set_option maxRecDepth 100000 in
theorem q_579 : Cond.fieldLink R_Mdl 92 "WideCoreModel" "place" "I" ∈ WS := WS_at 579 rfl rfl
set_option maxRecDepth 100000 in
theorem q_580 : Cond.fieldLink R_Mdl 95 "WideCoreModel" "near" "Z" ∈ WS := WS_at 580 rfl rfl
set_option maxRecDepth 100000 in
theorem q_581 : Cond.laysFinal R_Mdl R_Mdl "memory" "[I" ∈ WS := WS_at 581 rfl rfl
set_option maxRecDepth 100000 in
theorem q_583 : Cond.lays R_Mdl R_Mdl "c" "I" ∈ WS := WS_at 583 rfl rfl
set_option maxRecDepth 100000 in
theorem q_585 : Cond.lays R_Mdl R_Mdl "x" "I" ∈ WS := WS_at 585 rfl rfl
set_option maxRecDepth 100000 in
theorem q_587 : Cond.lays R_Mdl R_Mdl "y" "I" ∈ WS := WS_at 587 rfl rfl
set_option maxRecDepth 100000 in
theorem q_589 : Cond.lays R_Mdl R_Mdl "s" "I" ∈ WS := WS_at 589 rfl rfl
set_option maxRecDepth 100000 in
theorem q_591 : Cond.lays R_Mdl R_Mdl "d" "I" ∈ WS := WS_at 591 rfl rfl
set_option maxRecDepth 100000 in
theorem q_593 : Cond.lays R_Mdl R_Mdl "db" "I" ∈ WS := WS_at 593 rfl rfl
set_option maxRecDepth 100000 in
theorem q_595 : Cond.lays R_Mdl R_Mdl "p" "I" ∈ WS := WS_at 595 rfl rfl
set_option maxRecDepth 100000 in
theorem q_597 : Cond.lays R_Mdl R_Mdl "pb" "I" ∈ WS := WS_at 597 rfl rfl
set_option maxRecDepth 100000 in
theorem q_599 : Cond.lays R_Mdl R_Mdl "pc" "I" ∈ WS := WS_at 599 rfl rfl
set_option maxRecDepth 100000 in
theorem q_601 : Cond.lays R_Mdl R_Mdl "stopped" "Z" ∈ WS := WS_at 601 rfl rfl
set_option maxRecDepth 100000 in
theorem q_603 : Cond.lays R_Mdl R_Mdl "nmi" "Z" ∈ WS := WS_at 603 rfl rfl
set_option maxRecDepth 100000 in
theorem q_605 : Cond.lays R_Mdl R_Mdl "irq" "Z" ∈ WS := WS_at 605 rfl rfl
set_option maxRecDepth 100000 in
theorem q_607 : Cond.lays R_Mdl R_Mdl "steps" "I" ∈ WS := WS_at 607 rfl rfl
set_option maxRecDepth 100000 in
theorem q_609 : Cond.lays R_Mdl R_Mdl "touches" "I" ∈ WS := WS_at 609 rfl rfl
set_option maxRecDepth 100000 in
theorem q_611 : Cond.laysFinal R_Mdl R_Mdl "latest" "[I" ∈ WS := WS_at 611 rfl rfl
set_option maxRecDepth 100000 in
theorem q_613 : Cond.lays R_Mdl R_Mdl "place" "I" ∈ WS := WS_at 613 rfl rfl
set_option maxRecDepth 100000 in
theorem q_615 : Cond.lays R_Mdl R_Mdl "near" "Z" ∈ WS := WS_at 615 rfl rfl
set_option maxRecDepth 100000 in
theorem q_618 : Cond.methodLink R_Law 17 y_Mdl_poke ∈ WS := WS_at 618 rfl rfl
set_option maxRecDepth 100000 in
theorem q_619 : Cond.instanceMethod y_Mdl_poke ∈ WS := WS_at 619 rfl rfl
set_option maxRecDepth 100000 in
theorem q_620 : Cond.selects R_Mdl y_Mdl_poke y_Mdl_poke ∈ WS := WS_at 620 rfl rfl
set_option maxRecDepth 100000 in
theorem q_621 : Cond.code y_Mdl_poke b_Mdl_poke 5 (some .boolean) ∈ WS := WS_at 621 rfl rfl
set_option maxRecDepth 100000 in
theorem q_622 : Cond.methodLink R_Law 22 y_Mdl_peek ∈ WS := WS_at 622 rfl rfl
set_option maxRecDepth 100000 in
theorem q_623 : Cond.instanceMethod y_Mdl_peek ∈ WS := WS_at 623 rfl rfl
set_option maxRecDepth 100000 in
theorem q_624 : Cond.selects R_Mdl y_Mdl_peek y_Mdl_peek ∈ WS := WS_at 624 rfl rfl
set_option maxRecDepth 100000 in
theorem q_625 : Cond.code y_Mdl_peek b_Mdl_peek 2 (some .int) ∈ WS := WS_at 625 rfl rfl
set_option maxRecDepth 100000 in
theorem q_626 : Cond.methodLink R_Law 27 y_Mdl_start ∈ WS := WS_at 626 rfl rfl
set_option maxRecDepth 100000 in
theorem q_627 : Cond.instanceMethod y_Mdl_start ∈ WS := WS_at 627 rfl rfl
set_option maxRecDepth 100000 in
theorem q_628 : Cond.selects R_Mdl y_Mdl_start y_Mdl_start ∈ WS := WS_at 628 rfl rfl
set_option maxRecDepth 100000 in
theorem q_629 : Cond.code y_Mdl_start b_Mdl_start 3 (some .boolean) ∈ WS := WS_at 629 rfl rfl
set_option maxRecDepth 100000 in
theorem q_630 : Cond.constant R_Mdl 35 65535 ∈ WS := WS_at 630 rfl rfl
set_option maxRecDepth 100000 in
theorem q_631 : Cond.methodLink R_Law 31 y_Mdl_set ∈ WS := WS_at 631 rfl rfl
set_option maxRecDepth 100000 in
theorem q_632 : Cond.instanceMethod y_Mdl_set ∈ WS := WS_at 632 rfl rfl
set_option maxRecDepth 100000 in
theorem q_633 : Cond.selects R_Mdl y_Mdl_set y_Mdl_set ∈ WS := WS_at 633 rfl rfl
set_option maxRecDepth 100000 in
theorem q_634 : Cond.code y_Mdl_set b_Mdl_set 3 (some .boolean) ∈ WS := WS_at 634 rfl rfl
set_option maxRecDepth 100000 in
theorem q_635 : Cond.methodLink R_Mdl 67 y_Mdl_is ∈ WS := WS_at 635 rfl rfl
set_option maxRecDepth 100000 in
theorem q_637 : Cond.instanceMethod y_Mdl_is ∈ WS := WS_at 637 rfl rfl
set_option maxRecDepth 100000 in
theorem q_638 : Cond.code y_Mdl_is b_Mdl_is 2 (some .boolean) ∈ WS := WS_at 638 rfl rfl
set_option maxRecDepth 100000 in
theorem q_639 : Cond.methodLink R_Mdl 75 y_Mdl_cut ∈ WS := WS_at 639 rfl rfl
set_option maxRecDepth 100000 in
theorem q_641 : Cond.instanceMethod y_Mdl_cut ∈ WS := WS_at 641 rfl rfl
set_option maxRecDepth 100000 in
theorem q_642 : Cond.code y_Mdl_cut b_Mdl_cut 3 (some .int) ∈ WS := WS_at 642 rfl rfl
set_option maxRecDepth 100000 in
theorem q_643 : Cond.methodLink R_Mdl 173 y_Mdl_setFlags ∈ WS := WS_at 643 rfl rfl
set_option maxRecDepth 100000 in
theorem q_645 : Cond.instanceMethod y_Mdl_setFlags ∈ WS := WS_at 645 rfl rfl
set_option maxRecDepth 100000 in
theorem q_646 : Cond.code y_Mdl_setFlags b_Mdl_setFlags 2 none ∈ WS := WS_at 646 rfl rfl
set_option maxRecDepth 100000 in
theorem q_647 : Cond.methodLink R_Law 35 y_Mdl_register ∈ WS := WS_at 647 rfl rfl
set_option maxRecDepth 100000 in
theorem q_648 : Cond.instanceMethod y_Mdl_register ∈ WS := WS_at 648 rfl rfl
set_option maxRecDepth 100000 in
theorem q_649 : Cond.selects R_Mdl y_Mdl_register y_Mdl_register ∈ WS := WS_at 649 rfl rfl
set_option maxRecDepth 100000 in
theorem q_650 : Cond.code y_Mdl_register b_Mdl_register 2 (some .int) ∈ WS := WS_at 650 rfl rfl
set_option maxRecDepth 100000 in
theorem q_651 : Cond.methodLink R_Law 39 y_Mdl_run ∈ WS := WS_at 651 rfl rfl
set_option maxRecDepth 100000 in
theorem q_652 : Cond.instanceMethod y_Mdl_run ∈ WS := WS_at 652 rfl rfl
set_option maxRecDepth 100000 in
theorem q_653 : Cond.selects R_Mdl y_Mdl_run y_Mdl_run ∈ WS := WS_at 653 rfl rfl
set_option maxRecDepth 100000 in
theorem q_654 : Cond.code y_Mdl_run b_Mdl_run 3 (some .int) ∈ WS := WS_at 654 rfl rfl
set_option maxRecDepth 100000 in
theorem q_655 : Cond.methodLink R_Mdl 224 y_Mdl_step ∈ WS := WS_at 655 rfl rfl
set_option maxRecDepth 100000 in
theorem q_657 : Cond.instanceMethod y_Mdl_step ∈ WS := WS_at 657 rfl rfl
set_option maxRecDepth 100000 in
theorem q_658 : Cond.code y_Mdl_step b_Mdl_step 5 none ∈ WS := WS_at 658 rfl rfl
set_option maxRecDepth 100000 in
theorem q_659 : Cond.methodLink R_Mdl 185 y_Mdl_interruptFrom ∈ WS := WS_at 659 rfl rfl
set_option maxRecDepth 100000 in
theorem q_661 : Cond.instanceMethod y_Mdl_interruptFrom ∈ WS := WS_at 661 rfl rfl
set_option maxRecDepth 100000 in
theorem q_662 : Cond.code y_Mdl_interruptFrom b_Mdl_interruptFrom 2 none ∈ WS := WS_at 662 rfl rfl
set_option maxRecDepth 100000 in
theorem q_663 : Cond.methodLink R_Mdl 48 y_Mdl_push ∈ WS := WS_at 663 rfl rfl
set_option maxRecDepth 100000 in
theorem q_665 : Cond.instanceMethod y_Mdl_push ∈ WS := WS_at 665 rfl rfl
set_option maxRecDepth 100000 in
theorem q_666 : Cond.code y_Mdl_push b_Mdl_push 2 none ∈ WS := WS_at 666 rfl rfl
set_option maxRecDepth 100000 in
theorem q_667 : Cond.methodLink R_Mdl 44 y_Mdl_write ∈ WS := WS_at 667 rfl rfl
set_option maxRecDepth 100000 in
theorem q_669 : Cond.instanceMethod y_Mdl_write ∈ WS := WS_at 669 rfl rfl
set_option maxRecDepth 100000 in
theorem q_670 : Cond.code y_Mdl_write b_Mdl_write 3 none ∈ WS := WS_at 670 rfl rfl
set_option maxRecDepth 100000 in
theorem q_671 : Cond.methodLink R_Mdl 26 y_Mdl_cell ∈ WS := WS_at 671 rfl rfl
set_option maxRecDepth 100000 in
theorem q_672 : Cond.static y_Mdl_cell ∈ WS := WS_at 672 rfl rfl
set_option maxRecDepth 100000 in
theorem q_673 : Cond.code y_Mdl_cell b_Mdl_cell 1 (some .int) ∈ WS := WS_at 673 rfl rfl
set_option maxRecDepth 100000 in
theorem q_674 : Cond.methodLink R_Mdl 30 y_Mdl_touch ∈ WS := WS_at 674 rfl rfl
set_option maxRecDepth 100000 in
theorem q_676 : Cond.instanceMethod y_Mdl_touch ∈ WS := WS_at 676 rfl rfl
set_option maxRecDepth 100000 in
theorem q_677 : Cond.code y_Mdl_touch b_Mdl_touch 3 none ∈ WS := WS_at 677 rfl rfl
set_option maxRecDepth 100000 in
theorem q_678 : Cond.methodLink R_Mdl 161 y_Mdl_pushWord ∈ WS := WS_at 678 rfl rfl
set_option maxRecDepth 100000 in
theorem q_680 : Cond.instanceMethod y_Mdl_pushWord ∈ WS := WS_at 680 rfl rfl
set_option maxRecDepth 100000 in
theorem q_681 : Cond.code y_Mdl_pushWord b_Mdl_pushWord 2 none ∈ WS := WS_at 681 rfl rfl
set_option maxRecDepth 100000 in
theorem q_682 : Cond.methodLink R_Mdl 79 y_Mdl_flag ∈ WS := WS_at 682 rfl rfl
set_option maxRecDepth 100000 in
theorem q_684 : Cond.instanceMethod y_Mdl_flag ∈ WS := WS_at 684 rfl rfl
set_option maxRecDepth 100000 in
theorem q_685 : Cond.code y_Mdl_flag b_Mdl_flag 3 none ∈ WS := WS_at 685 rfl rfl
set_option maxRecDepth 100000 in
theorem q_686 : Cond.methodLink R_Mdl 111 y_Mdl_readWord ∈ WS := WS_at 686 rfl rfl
set_option maxRecDepth 100000 in
theorem q_688 : Cond.instanceMethod y_Mdl_readWord ∈ WS := WS_at 688 rfl rfl
set_option maxRecDepth 100000 in
theorem q_689 : Cond.code y_Mdl_readWord b_Mdl_readWord 4 (some .int) ∈ WS := WS_at 689 rfl rfl
set_option maxRecDepth 100000 in
theorem q_690 : Cond.methodLink R_Mdl 37 y_Mdl_read ∈ WS := WS_at 690 rfl rfl
set_option maxRecDepth 100000 in
theorem q_692 : Cond.instanceMethod y_Mdl_read ∈ WS := WS_at 692 rfl rfl
set_option maxRecDepth 100000 in
theorem q_693 : Cond.code y_Mdl_read b_Mdl_read 2 (some .int) ∈ WS := WS_at 693 rfl rfl
set_option maxRecDepth 100000 in
theorem q_694 : Cond.methodLink R_Mdl 40 y_Mdl_after ∈ WS := WS_at 694 rfl rfl
set_option maxRecDepth 100000 in
theorem q_696 : Cond.instanceMethod y_Mdl_after ∈ WS := WS_at 696 rfl rfl
set_option maxRecDepth 100000 in
theorem q_697 : Cond.code y_Mdl_after b_Mdl_after 3 (some .int) ∈ WS := WS_at 697 rfl rfl
set_option maxRecDepth 100000 in
theorem q_698 : Cond.constant R_Mdl 34 16711680 ∈ WS := WS_at 698 rfl rfl
set_option maxRecDepth 100000 in
theorem q_699 : Cond.constant R_Mdl 36 16777215 ∈ WS := WS_at 699 rfl rfl
set_option maxRecDepth 100000 in
theorem q_700 : Cond.methodLink R_Mdl 61 y_Mdl_next ∈ WS := WS_at 700 rfl rfl
set_option maxRecDepth 100000 in
theorem q_702 : Cond.instanceMethod y_Mdl_next ∈ WS := WS_at 702 rfl rfl
set_option maxRecDepth 100000 in
theorem q_703 : Cond.code y_Mdl_next b_Mdl_next 2 (some .int) ∈ WS := WS_at 703 rfl rfl
set_option maxRecDepth 100000 in
theorem q_704 : Cond.methodLink R_Mdl 200 y_Mdl_arithmetic ∈ WS := WS_at 704 rfl rfl
set_option maxRecDepth 100000 in
theorem q_706 : Cond.instanceMethod y_Mdl_arithmetic ∈ WS := WS_at 706 rfl rfl
set_option maxRecDepth 100000 in
theorem q_707 : Cond.code y_Mdl_arithmetic b_Mdl_arithmetic 8 (some .boolean) ∈ WS := WS_at 707 rfl rfl
set_option maxRecDepth 100000 in
theorem q_708 : Cond.methodLink R_Mdl 123 y_Mdl_find ∈ WS := WS_at 708 rfl rfl
set_option maxRecDepth 100000 in
theorem q_710 : Cond.instanceMethod y_Mdl_find ∈ WS := WS_at 710 rfl rfl
set_option maxRecDepth 100000 in
theorem q_711 : Cond.code y_Mdl_find b_Mdl_find 4 (some .boolean) ∈ WS := WS_at 711 rfl rfl
set_option maxRecDepth 100000 in
theorem q_712 : Cond.methodLink R_Mdl 99 y_Mdl_direct ∈ WS := WS_at 712 rfl rfl
set_option maxRecDepth 100000 in
theorem q_714 : Cond.instanceMethod y_Mdl_direct ∈ WS := WS_at 714 rfl rfl
set_option maxRecDepth 100000 in
theorem q_715 : Cond.code y_Mdl_direct b_Mdl_direct 2 none ∈ WS := WS_at 715 rfl rfl
set_option maxRecDepth 100000 in
theorem q_716 : Cond.methodLink R_Mdl 64 y_Mdl_nextWord ∈ WS := WS_at 716 rfl rfl
set_option maxRecDepth 100000 in
theorem q_718 : Cond.instanceMethod y_Mdl_nextWord ∈ WS := WS_at 718 rfl rfl
set_option maxRecDepth 100000 in
theorem q_719 : Cond.code y_Mdl_nextWord b_Mdl_nextWord 2 (some .int) ∈ WS := WS_at 719 rfl rfl
set_option maxRecDepth 100000 in
theorem q_720 : Cond.methodLink R_Mdl 105 y_Mdl_far ∈ WS := WS_at 720 rfl rfl
set_option maxRecDepth 100000 in
theorem q_722 : Cond.instanceMethod y_Mdl_far ∈ WS := WS_at 722 rfl rfl
set_option maxRecDepth 100000 in
theorem q_723 : Cond.code y_Mdl_far b_Mdl_far 2 none ∈ WS := WS_at 723 rfl rfl
set_option maxRecDepth 100000 in
theorem q_724 : Cond.methodLink R_Mdl 108 y_Mdl_nextLong ∈ WS := WS_at 724 rfl rfl
set_option maxRecDepth 100000 in
theorem q_726 : Cond.instanceMethod y_Mdl_nextLong ∈ WS := WS_at 726 rfl rfl
set_option maxRecDepth 100000 in
theorem q_727 : Cond.code y_Mdl_nextLong b_Mdl_nextLong 2 (some .int) ∈ WS := WS_at 727 rfl rfl
set_option maxRecDepth 100000 in
theorem q_728 : Cond.methodLink R_Mdl 114 y_Mdl_accumulator ∈ WS := WS_at 728 rfl rfl
set_option maxRecDepth 100000 in
theorem q_730 : Cond.instanceMethod y_Mdl_accumulator ∈ WS := WS_at 730 rfl rfl
set_option maxRecDepth 100000 in
theorem q_731 : Cond.code y_Mdl_accumulator b_Mdl_accumulator 1 (some .int) ∈ WS := WS_at 731 rfl rfl
set_option maxRecDepth 100000 in
theorem q_732 : Cond.methodLink R_Mdl 126 y_Mdl_store ∈ WS := WS_at 732 rfl rfl
set_option maxRecDepth 100000 in
theorem q_734 : Cond.instanceMethod y_Mdl_store ∈ WS := WS_at 734 rfl rfl
set_option maxRecDepth 100000 in
theorem q_735 : Cond.code y_Mdl_store b_Mdl_store 3 none ∈ WS := WS_at 735 rfl rfl
set_option maxRecDepth 100000 in
theorem q_736 : Cond.methodLink R_Mdl 129 y_Mdl_immediate ∈ WS := WS_at 736 rfl rfl
set_option maxRecDepth 100000 in
theorem q_738 : Cond.instanceMethod y_Mdl_immediate ∈ WS := WS_at 738 rfl rfl
set_option maxRecDepth 100000 in
theorem q_739 : Cond.code y_Mdl_immediate b_Mdl_immediate 2 (some .int) ∈ WS := WS_at 739 rfl rfl
set_option maxRecDepth 100000 in
theorem q_740 : Cond.methodLink R_Mdl 133 y_Mdl_load ∈ WS := WS_at 740 rfl rfl
set_option maxRecDepth 100000 in
theorem q_742 : Cond.instanceMethod y_Mdl_load ∈ WS := WS_at 742 rfl rfl
set_option maxRecDepth 100000 in
theorem q_743 : Cond.code y_Mdl_load b_Mdl_load 2 (some .int) ∈ WS := WS_at 743 rfl rfl
set_option maxRecDepth 100000 in
theorem q_744 : Cond.methodLink R_Mdl 136 y_Mdl_add ∈ WS := WS_at 744 rfl rfl
set_option maxRecDepth 100000 in
theorem q_746 : Cond.instanceMethod y_Mdl_add ∈ WS := WS_at 746 rfl rfl
set_option maxRecDepth 100000 in
theorem q_747 : Cond.code y_Mdl_add b_Mdl_add 6 none ∈ WS := WS_at 747 rfl rfl
set_option maxRecDepth 100000 in
theorem q_748 : Cond.constant R_Mdl 78 32768 ∈ WS := WS_at 748 rfl rfl
set_option maxRecDepth 100000 in
theorem q_749 : Cond.methodLink R_Mdl 117 y_Mdl_result ∈ WS := WS_at 749 rfl rfl
set_option maxRecDepth 100000 in
theorem q_751 : Cond.instanceMethod y_Mdl_result ∈ WS := WS_at 751 rfl rfl
set_option maxRecDepth 100000 in
theorem q_752 : Cond.code y_Mdl_result b_Mdl_result 4 (some .int) ∈ WS := WS_at 752 rfl rfl
set_option maxRecDepth 100000 in
theorem q_753 : Cond.methodLink R_Mdl 120 y_Mdl_setAccumulator ∈ WS := WS_at 753 rfl rfl
set_option maxRecDepth 100000 in
theorem q_755 : Cond.instanceMethod y_Mdl_setAccumulator ∈ WS := WS_at 755 rfl rfl
set_option maxRecDepth 100000 in
theorem q_756 : Cond.code y_Mdl_setAccumulator b_Mdl_setAccumulator 2 none ∈ WS := WS_at 756 rfl rfl
set_option maxRecDepth 100000 in
theorem q_757 : Cond.constant R_Mdl 74 65280 ∈ WS := WS_at 757 rfl rfl
set_option maxRecDepth 100000 in
theorem q_758 : Cond.methodLink R_Mdl 139 y_Mdl_compare ∈ WS := WS_at 758 rfl rfl
set_option maxRecDepth 100000 in
theorem q_760 : Cond.instanceMethod y_Mdl_compare ∈ WS := WS_at 760 rfl rfl
set_option maxRecDepth 100000 in
theorem q_761 : Cond.code y_Mdl_compare b_Mdl_compare 5 none ∈ WS := WS_at 761 rfl rfl
set_option maxRecDepth 100000 in
theorem q_762 : Cond.methodLink R_Mdl 203 y_Mdl_change ∈ WS := WS_at 762 rfl rfl
set_option maxRecDepth 100000 in
theorem q_764 : Cond.instanceMethod y_Mdl_change ∈ WS := WS_at 764 rfl rfl
set_option maxRecDepth 100000 in
theorem q_765 : Cond.code y_Mdl_change b_Mdl_change 2 (some .boolean) ∈ WS := WS_at 765 rfl rfl
set_option maxRecDepth 100000 in
theorem q_766 : Cond.methodLink R_Mdl 147 y_Mdl_changeMemory ∈ WS := WS_at 766 rfl rfl
set_option maxRecDepth 100000 in
theorem q_768 : Cond.instanceMethod y_Mdl_changeMemory ∈ WS := WS_at 768 rfl rfl
set_option maxRecDepth 100000 in
theorem q_769 : Cond.code y_Mdl_changeMemory b_Mdl_changeMemory 4 none ∈ WS := WS_at 769 rfl rfl
set_option maxRecDepth 100000 in
theorem q_770 : Cond.methodLink R_Mdl 143 y_Mdl_changed ∈ WS := WS_at 770 rfl rfl
set_option maxRecDepth 100000 in
theorem q_772 : Cond.instanceMethod y_Mdl_changed ∈ WS := WS_at 772 rfl rfl
set_option maxRecDepth 100000 in
theorem q_773 : Cond.code y_Mdl_changed b_Mdl_changed 6 (some .int) ∈ WS := WS_at 773 rfl rfl
set_option maxRecDepth 100000 in
theorem q_774 : Cond.methodLink R_Mdl 206 y_Mdl_index ∈ WS := WS_at 774 rfl rfl
set_option maxRecDepth 100000 in
theorem q_776 : Cond.instanceMethod y_Mdl_index ∈ WS := WS_at 776 rfl rfl
set_option maxRecDepth 100000 in
theorem q_777 : Cond.code y_Mdl_index b_Mdl_index 3 (some .boolean) ∈ WS := WS_at 777 rfl rfl
set_option maxRecDepth 100000 in
theorem q_778 : Cond.methodLink R_Mdl 154 y_Mdl_indexOperand ∈ WS := WS_at 778 rfl rfl
set_option maxRecDepth 100000 in
theorem q_780 : Cond.instanceMethod y_Mdl_indexOperand ∈ WS := WS_at 780 rfl rfl
set_option maxRecDepth 100000 in
theorem q_781 : Cond.code y_Mdl_indexOperand b_Mdl_indexOperand 2 (some .int) ∈ WS := WS_at 781 rfl rfl
set_option maxRecDepth 100000 in
theorem q_782 : Cond.methodLink R_Mdl 150 y_Mdl_findIndex ∈ WS := WS_at 782 rfl rfl
set_option maxRecDepth 100000 in
theorem q_784 : Cond.instanceMethod y_Mdl_findIndex ∈ WS := WS_at 784 rfl rfl
set_option maxRecDepth 100000 in
theorem q_785 : Cond.code y_Mdl_findIndex b_Mdl_findIndex 2 none ∈ WS := WS_at 785 rfl rfl
set_option maxRecDepth 100000 in
theorem q_786 : Cond.methodLink R_Mdl 157 y_Mdl_storeAt ∈ WS := WS_at 786 rfl rfl
set_option maxRecDepth 100000 in
theorem q_788 : Cond.instanceMethod y_Mdl_storeAt ∈ WS := WS_at 788 rfl rfl
set_option maxRecDepth 100000 in
theorem q_789 : Cond.code y_Mdl_storeAt b_Mdl_storeAt 4 none ∈ WS := WS_at 789 rfl rfl
set_option maxRecDepth 100000 in
theorem q_790 : Cond.methodLink R_Mdl 209 y_Mdl_transfer ∈ WS := WS_at 790 rfl rfl
set_option maxRecDepth 100000 in
theorem q_792 : Cond.instanceMethod y_Mdl_transfer ∈ WS := WS_at 792 rfl rfl
set_option maxRecDepth 100000 in
theorem q_793 : Cond.code y_Mdl_transfer b_Mdl_transfer 4 (some .boolean) ∈ WS := WS_at 793 rfl rfl
set_option maxRecDepth 100000 in
theorem q_794 : Cond.methodLink R_Mdl 212 y_Mdl_stack ∈ WS := WS_at 794 rfl rfl
set_option maxRecDepth 100000 in
theorem q_796 : Cond.instanceMethod y_Mdl_stack ∈ WS := WS_at 796 rfl rfl
set_option maxRecDepth 100000 in
theorem q_797 : Cond.code y_Mdl_stack b_Mdl_stack 2 (some .boolean) ∈ WS := WS_at 797 rfl rfl
set_option maxRecDepth 100000 in
theorem q_798 : Cond.methodLink R_Mdl 167 y_Mdl_pushOf ∈ WS := WS_at 798 rfl rfl
set_option maxRecDepth 100000 in
theorem q_800 : Cond.instanceMethod y_Mdl_pushOf ∈ WS := WS_at 800 rfl rfl
set_option maxRecDepth 100000 in
theorem q_801 : Cond.code y_Mdl_pushOf b_Mdl_pushOf 3 none ∈ WS := WS_at 801 rfl rfl
set_option maxRecDepth 100000 in
theorem q_802 : Cond.methodLink R_Mdl 170 y_Mdl_pullOf ∈ WS := WS_at 802 rfl rfl
set_option maxRecDepth 100000 in
theorem q_804 : Cond.instanceMethod y_Mdl_pullOf ∈ WS := WS_at 804 rfl rfl
set_option maxRecDepth 100000 in
theorem q_805 : Cond.code y_Mdl_pullOf b_Mdl_pullOf 2 (some .int) ∈ WS := WS_at 805 rfl rfl
set_option maxRecDepth 100000 in
theorem q_806 : Cond.methodLink R_Mdl 51 y_Mdl_pull ∈ WS := WS_at 806 rfl rfl
set_option maxRecDepth 100000 in
theorem q_808 : Cond.instanceMethod y_Mdl_pull ∈ WS := WS_at 808 rfl rfl
set_option maxRecDepth 100000 in
theorem q_809 : Cond.code y_Mdl_pull b_Mdl_pull 1 (some .int) ∈ WS := WS_at 809 rfl rfl
set_option maxRecDepth 100000 in
theorem q_810 : Cond.methodLink R_Mdl 164 y_Mdl_pullWord ∈ WS := WS_at 810 rfl rfl
set_option maxRecDepth 100000 in
theorem q_812 : Cond.instanceMethod y_Mdl_pullWord ∈ WS := WS_at 812 rfl rfl
set_option maxRecDepth 100000 in
theorem q_813 : Cond.code y_Mdl_pullWord b_Mdl_pullWord 2 (some .int) ∈ WS := WS_at 813 rfl rfl
set_option maxRecDepth 100000 in
theorem q_814 : Cond.methodLink R_Mdl 215 y_Mdl_jump ∈ WS := WS_at 814 rfl rfl
set_option maxRecDepth 100000 in
theorem q_816 : Cond.instanceMethod y_Mdl_jump ∈ WS := WS_at 816 rfl rfl
set_option maxRecDepth 100000 in
theorem q_817 : Cond.code y_Mdl_jump b_Mdl_jump 3 (some .boolean) ∈ WS := WS_at 817 rfl rfl
set_option maxRecDepth 100000 in
theorem q_818 : Cond.methodLink R_Mdl 176 y_Mdl_branch ∈ WS := WS_at 818 rfl rfl
set_option maxRecDepth 100000 in
theorem q_820 : Cond.instanceMethod y_Mdl_branch ∈ WS := WS_at 820 rfl rfl
set_option maxRecDepth 100000 in
theorem q_821 : Cond.code y_Mdl_branch b_Mdl_branch 3 none ∈ WS := WS_at 821 rfl rfl
set_option maxRecDepth 100000 in
theorem q_822 : Cond.methodLink R_Mdl 179 y_Mdl_call ∈ WS := WS_at 822 rfl rfl
set_option maxRecDepth 100000 in
theorem q_824 : Cond.instanceMethod y_Mdl_call ∈ WS := WS_at 824 rfl rfl
set_option maxRecDepth 100000 in
theorem q_825 : Cond.code y_Mdl_call b_Mdl_call 2 none ∈ WS := WS_at 825 rfl rfl
set_option maxRecDepth 100000 in
theorem q_826 : Cond.methodLink R_Mdl 182 y_Mdl_longJump ∈ WS := WS_at 826 rfl rfl
set_option maxRecDepth 100000 in
theorem q_828 : Cond.instanceMethod y_Mdl_longJump ∈ WS := WS_at 828 rfl rfl
set_option maxRecDepth 100000 in
theorem q_829 : Cond.code y_Mdl_longJump b_Mdl_longJump 3 (some .boolean) ∈ WS := WS_at 829 rfl rfl
set_option maxRecDepth 100000 in
theorem q_830 : Cond.methodLink R_Mdl 218 y_Mdl_other ∈ WS := WS_at 830 rfl rfl
set_option maxRecDepth 100000 in
theorem q_832 : Cond.instanceMethod y_Mdl_other ∈ WS := WS_at 832 rfl rfl
set_option maxRecDepth 100000 in
theorem q_833 : Cond.code y_Mdl_other b_Mdl_other 2 (some .boolean) ∈ WS := WS_at 833 rfl rfl
set_option maxRecDepth 100000 in
theorem q_834 : Cond.methodLink R_Mdl 188 y_Mdl_moveBlock ∈ WS := WS_at 834 rfl rfl
set_option maxRecDepth 100000 in
theorem q_836 : Cond.instanceMethod y_Mdl_moveBlock ∈ WS := WS_at 836 rfl rfl
set_option maxRecDepth 100000 in
theorem q_837 : Cond.code y_Mdl_moveBlock b_Mdl_moveBlock 6 none ∈ WS := WS_at 837 rfl rfl
set_option maxRecDepth 100000 in
theorem q_838 : Cond.methodLink R_Law 44 y_Mdl_stopped ∈ WS := WS_at 838 rfl rfl
set_option maxRecDepth 100000 in
theorem q_839 : Cond.instanceMethod y_Mdl_stopped ∈ WS := WS_at 839 rfl rfl
set_option maxRecDepth 100000 in
theorem q_840 : Cond.selects R_Mdl y_Mdl_stopped y_Mdl_stopped ∈ WS := WS_at 840 rfl rfl
set_option maxRecDepth 100000 in
theorem q_841 : Cond.code y_Mdl_stopped b_Mdl_stopped 1 (some .boolean) ∈ WS := WS_at 841 rfl rfl
set_option maxRecDepth 100000 in
theorem q_842 : Cond.methodLink R_Law 48 y_Mdl_interrupt ∈ WS := WS_at 842 rfl rfl
set_option maxRecDepth 100000 in
theorem q_843 : Cond.instanceMethod y_Mdl_interrupt ∈ WS := WS_at 843 rfl rfl
set_option maxRecDepth 100000 in
theorem q_844 : Cond.selects R_Mdl y_Mdl_interrupt y_Mdl_interrupt ∈ WS := WS_at 844 rfl rfl
set_option maxRecDepth 100000 in
theorem q_845 : Cond.code y_Mdl_interrupt b_Mdl_interrupt 2 (some .boolean) ∈ WS := WS_at 845 rfl rfl
set_option maxRecDepth 100000 in
theorem q_846 : Cond.methodLink R_Law 53 y_Mdl_line ∈ WS := WS_at 846 rfl rfl
set_option maxRecDepth 100000 in
theorem q_847 : Cond.instanceMethod y_Mdl_line ∈ WS := WS_at 847 rfl rfl
set_option maxRecDepth 100000 in
theorem q_848 : Cond.selects R_Mdl y_Mdl_line y_Mdl_line ∈ WS := WS_at 848 rfl rfl
set_option maxRecDepth 100000 in
theorem q_849 : Cond.code y_Mdl_line b_Mdl_line 2 none ∈ WS := WS_at 849 rfl rfl
set_option maxRecDepth 100000 in
theorem q_850 : Cond.methodLink R_Law 58 y_Mdl_touches ∈ WS := WS_at 850 rfl rfl
set_option maxRecDepth 100000 in
theorem q_851 : Cond.instanceMethod y_Mdl_touches ∈ WS := WS_at 851 rfl rfl
set_option maxRecDepth 100000 in
theorem q_852 : Cond.selects R_Mdl y_Mdl_touches y_Mdl_touches ∈ WS := WS_at 852 rfl rfl
set_option maxRecDepth 100000 in
theorem q_853 : Cond.code y_Mdl_touches b_Mdl_touches 1 (some .int) ∈ WS := WS_at 853 rfl rfl
set_option maxRecDepth 100000 in
theorem q_854 : Cond.methodLink R_Law 62 y_Mdl_touched ∈ WS := WS_at 854 rfl rfl
set_option maxRecDepth 100000 in
theorem q_855 : Cond.instanceMethod y_Mdl_touched ∈ WS := WS_at 855 rfl rfl
set_option maxRecDepth 100000 in
theorem q_856 : Cond.selects R_Mdl y_Mdl_touched y_Mdl_touched ∈ WS := WS_at 856 rfl rfl
set_option maxRecDepth 100000 in
theorem q_857 : Cond.code y_Mdl_touched b_Mdl_touched 2 (some .int) ∈ WS := WS_at 857 rfl rfl
set_option maxRecDepth 100000 in
theorem q_858 : Cond.methodLink R_Law 66 y_Mdl_steps ∈ WS := WS_at 858 rfl rfl
set_option maxRecDepth 100000 in
theorem q_859 : Cond.instanceMethod y_Mdl_steps ∈ WS := WS_at 859 rfl rfl
set_option maxRecDepth 100000 in
theorem q_860 : Cond.selects R_Mdl y_Mdl_steps y_Mdl_steps ∈ WS := WS_at 860 rfl rfl
set_option maxRecDepth 100000 in
theorem q_861 : Cond.code y_Mdl_steps b_Mdl_steps 1 (some .int) ∈ WS := WS_at 861 rfl rfl
