theorem d_Mdl_stack_282 : decode b_Mdl_stack 282 = .ok (.aload_n 0, 1) := by decide +kernel
theorem d_Mdl_stack_283 : decode b_Mdl_stack 283 = .ok (.iconst 0, 1) := by decide +kernel
theorem d_Mdl_stack_284 : decode b_Mdl_stack 284 = .ok (.invokevirtual 170, 3) := by decide +kernel
theorem d_Mdl_stack_287 : decode b_Mdl_stack 287 = .ok (.putfield 89, 3) := by decide +kernel
theorem d_Mdl_stack_290 : decode b_Mdl_stack 290 = .ok (.goto 28, 3) := by decide +kernel
theorem d_Mdl_stack_293 : decode b_Mdl_stack 293 = .ok (.aload_n 0, 1) := by decide +kernel
theorem d_Mdl_stack_294 : decode b_Mdl_stack 294 = .ok (.aload_n 0, 1) := by decide +kernel
theorem d_Mdl_stack_295 : decode b_Mdl_stack 295 = .ok (.iconst 1, 1) := by decide +kernel
theorem d_Mdl_stack_296 : decode b_Mdl_stack 296 = .ok (.invokevirtual 170, 3) := by decide +kernel
theorem d_Mdl_stack_299 : decode b_Mdl_stack 299 = .ok (.putfield 102, 3) := by decide +kernel
theorem d_Mdl_stack_302 : decode b_Mdl_stack 302 = .ok (.goto 16, 3) := by decide +kernel
theorem d_Mdl_stack_305 : decode b_Mdl_stack 305 = .ok (.aload_n 0, 1) := by decide +kernel
theorem d_Mdl_stack_306 : decode b_Mdl_stack 306 = .ok (.aload_n 0, 1) := by decide +kernel
theorem d_Mdl_stack_307 : decode b_Mdl_stack 307 = .ok (.invokevirtual 51, 3) := by decide +kernel
theorem d_Mdl_stack_310 : decode b_Mdl_stack 310 = .ok (.invokevirtual 173, 3) := by decide +kernel
theorem d_Mdl_stack_313 : decode b_Mdl_stack 313 = .ok (.goto 5, 3) := by decide +kernel
theorem d_Mdl_stack_316 : decode b_Mdl_stack 316 = .ok (.iconst 0, 1) := by decide +kernel
theorem d_Mdl_stack_317 : decode b_Mdl_stack 317 = .ok (.ireturn, 1) := by decide +kernel
theorem d_Mdl_stack_318 : decode b_Mdl_stack 318 = .ok (.iconst 1, 1) := by decide +kernel
theorem d_Mdl_stack_319 : decode b_Mdl_stack 319 = .ok (.ireturn, 1) := by decide +kernel
theorem d_Mdl_branch_0 : decode b_Mdl_branch 0 = .ok (.aload_n 0, 1) := by decide +kernel
theorem d_Mdl_branch_1 : decode b_Mdl_branch 1 = .ok (.invokevirtual 61, 3) := by decide +kernel
theorem d_Mdl_branch_4 : decode b_Mdl_branch 4 = .ok (.istore_n 2, 1) := by decide +kernel
theorem d_Mdl_branch_5 : decode b_Mdl_branch 5 = .ok (.iload_n 2, 1) := by decide +kernel
theorem d_Mdl_branch_6 : decode b_Mdl_branch 6 = .ok (.bipush 127, 2) := by decide +kernel
theorem d_Mdl_branch_8 : decode b_Mdl_branch 8 = .ok (.if_icmp .le 11, 3) := by decide +kernel
theorem d_Mdl_branch_11 : decode b_Mdl_branch 11 = .ok (.iload_n 2, 1) := by decide +kernel
theorem d_Mdl_branch_12 : decode b_Mdl_branch 12 = .ok (.sipush 256, 3) := by decide +kernel
theorem d_Mdl_branch_15 : decode b_Mdl_branch 15 = .ok (.isub, 1) := by decide +kernel
theorem d_Mdl_branch_16 : decode b_Mdl_branch 16 = .ok (.goto 4, 3) := by decide +kernel
theorem d_Mdl_branch_19 : decode b_Mdl_branch 19 = .ok (.iload_n 2, 1) := by decide +kernel
theorem d_Mdl_branch_20 : decode b_Mdl_branch 20 = .ok (.istore_n 2, 1) := by decide +kernel
theorem d_Mdl_branch_21 : decode b_Mdl_branch 21 = .ok (.aload_n 0, 1) := by decide +kernel
theorem d_Mdl_branch_22 : decode b_Mdl_branch 22 = .ok (.iload_n 1, 1) := by decide +kernel
theorem d_Mdl_branch_23 : decode b_Mdl_branch 23 = .ok (.ifCond .eq 15, 3) := by decide +kernel
theorem d_Mdl_branch_26 : decode b_Mdl_branch 26 = .ok (.aload_n 0, 1) := by decide +kernel
theorem d_Mdl_branch_27 : decode b_Mdl_branch 27 = .ok (.getfield 58, 3) := by decide +kernel
theorem d_Mdl_branch_30 : decode b_Mdl_branch 30 = .ok (.iload_n 2, 1) := by decide +kernel
theorem d_Mdl_branch_31 : decode b_Mdl_branch 31 = .ok (.iadd, 1) := by decide +kernel
theorem d_Mdl_branch_32 : decode b_Mdl_branch 32 = .ok (.ldc 35, 2) := by decide +kernel
theorem d_Mdl_branch_34 : decode b_Mdl_branch 34 = .ok (.iand, 1) := by decide +kernel
theorem d_Mdl_branch_35 : decode b_Mdl_branch 35 = .ok (.goto 7, 3) := by decide +kernel
theorem d_Mdl_branch_38 : decode b_Mdl_branch 38 = .ok (.aload_n 0, 1) := by decide +kernel
theorem d_Mdl_branch_39 : decode b_Mdl_branch 39 = .ok (.getfield 58, 3) := by decide +kernel
theorem d_Mdl_branch_42 : decode b_Mdl_branch 42 = .ok (.putfield 58, 3) := by decide +kernel
theorem d_Mdl_branch_45 : decode b_Mdl_branch 45 = .ok (.return_, 1) := by decide +kernel
theorem d_Mdl_call_0 : decode b_Mdl_call 0 = .ok (.aload_n 0, 1) := by decide +kernel
theorem d_Mdl_call_1 : decode b_Mdl_call 1 = .ok (.aload_n 0, 1) := by decide +kernel
theorem d_Mdl_call_2 : decode b_Mdl_call 2 = .ok (.getfield 58, 3) := by decide +kernel
theorem d_Mdl_call_5 : decode b_Mdl_call 5 = .ok (.iconst 1, 1) := by decide +kernel
theorem d_Mdl_call_6 : decode b_Mdl_call 6 = .ok (.isub, 1) := by decide +kernel
theorem d_Mdl_call_7 : decode b_Mdl_call 7 = .ok (.ldc 35, 2) := by decide +kernel
theorem d_Mdl_call_9 : decode b_Mdl_call 9 = .ok (.iand, 1) := by decide +kernel
theorem d_Mdl_call_10 : decode b_Mdl_call 10 = .ok (.invokevirtual 161, 3) := by decide +kernel
theorem d_Mdl_call_13 : decode b_Mdl_call 13 = .ok (.aload_n 0, 1) := by decide +kernel
theorem d_Mdl_call_14 : decode b_Mdl_call 14 = .ok (.iload_n 1, 1) := by decide +kernel
theorem d_Mdl_call_15 : decode b_Mdl_call 15 = .ok (.ldc 35, 2) := by decide +kernel
theorem d_Mdl_call_17 : decode b_Mdl_call 17 = .ok (.iand, 1) := by decide +kernel
theorem d_Mdl_call_18 : decode b_Mdl_call 18 = .ok (.putfield 58, 3) := by decide +kernel
theorem d_Mdl_call_21 : decode b_Mdl_call 21 = .ok (.return_, 1) := by decide +kernel
theorem d_Mdl_jump_0 : decode b_Mdl_jump 0 = .ok (.iload_n 1, 1) := by decide +kernel
theorem d_Mdl_jump_1 : decode b_Mdl_jump 1 = .ok (.lookupswitch 316 #[(16, 115), (32, 289), (48, 137), (76, 278), (80, 151), (96, 300), (112, 172), (128, 249), (130, 257), (144, 185), (176, 205), (208, 217), (240, 237)], 115) := by decide +kernel
theorem d_Mdl_jump_116 : decode b_Mdl_jump 116 = .ok (.aload_n 0, 1) := by decide +kernel
theorem d_Mdl_jump_117 : decode b_Mdl_jump 117 = .ok (.aload_n 0, 1) := by decide +kernel
theorem d_Mdl_jump_118 : decode b_Mdl_jump 118 = .ok (.sipush 128, 3) := by decide +kernel
theorem d_Mdl_jump_121 : decode b_Mdl_jump 121 = .ok (.invokevirtual 67, 3) := by decide +kernel
theorem d_Mdl_jump_124 : decode b_Mdl_jump 124 = .ok (.ifCond .ne 7, 3) := by decide +kernel
theorem d_Mdl_jump_127 : decode b_Mdl_jump 127 = .ok (.iconst 1, 1) := by decide +kernel
theorem d_Mdl_jump_128 : decode b_Mdl_jump 128 = .ok (.goto 4, 3) := by decide +kernel
theorem d_Mdl_jump_131 : decode b_Mdl_jump 131 = .ok (.iconst 0, 1) := by decide +kernel
theorem d_Mdl_jump_132 : decode b_Mdl_jump 132 = .ok (.invokevirtual 176, 3) := by decide +kernel
theorem d_Mdl_jump_135 : decode b_Mdl_jump 135 = .ok (.goto 188, 3) := by decide +kernel
theorem d_Mdl_jump_138 : decode b_Mdl_jump 138 = .ok (.aload_n 0, 1) := by decide +kernel
theorem d_Mdl_jump_139 : decode b_Mdl_jump 139 = .ok (.aload_n 0, 1) := by decide +kernel
theorem d_Mdl_jump_140 : decode b_Mdl_jump 140 = .ok (.sipush 128, 3) := by decide +kernel
theorem d_Mdl_jump_143 : decode b_Mdl_jump 143 = .ok (.invokevirtual 67, 3) := by decide +kernel
theorem d_Mdl_jump_146 : decode b_Mdl_jump 146 = .ok (.invokevirtual 176, 3) := by decide +kernel
theorem d_Mdl_jump_149 : decode b_Mdl_jump 149 = .ok (.goto 174, 3) := by decide +kernel
theorem d_Mdl_jump_152 : decode b_Mdl_jump 152 = .ok (.aload_n 0, 1) := by decide +kernel
theorem d_Mdl_jump_153 : decode b_Mdl_jump 153 = .ok (.aload_n 0, 1) := by decide +kernel
theorem d_Mdl_jump_154 : decode b_Mdl_jump 154 = .ok (.bipush 64, 2) := by decide +kernel
theorem d_Mdl_jump_156 : decode b_Mdl_jump 156 = .ok (.invokevirtual 67, 3) := by decide +kernel
theorem d_Mdl_jump_159 : decode b_Mdl_jump 159 = .ok (.ifCond .ne 7, 3) := by decide +kernel
theorem d_Mdl_jump_162 : decode b_Mdl_jump 162 = .ok (.iconst 1, 1) := by decide +kernel
theorem d_Mdl_jump_163 : decode b_Mdl_jump 163 = .ok (.goto 4, 3) := by decide +kernel
theorem d_Mdl_jump_166 : decode b_Mdl_jump 166 = .ok (.iconst 0, 1) := by decide +kernel
theorem d_Mdl_jump_167 : decode b_Mdl_jump 167 = .ok (.invokevirtual 176, 3) := by decide +kernel
theorem d_Mdl_jump_170 : decode b_Mdl_jump 170 = .ok (.goto 153, 3) := by decide +kernel
theorem d_Mdl_jump_173 : decode b_Mdl_jump 173 = .ok (.aload_n 0, 1) := by decide +kernel
theorem d_Mdl_jump_174 : decode b_Mdl_jump 174 = .ok (.aload_n 0, 1) := by decide +kernel
theorem d_Mdl_jump_175 : decode b_Mdl_jump 175 = .ok (.bipush 64, 2) := by decide +kernel
theorem d_Mdl_jump_177 : decode b_Mdl_jump 177 = .ok (.invokevirtual 67, 3) := by decide +kernel
theorem d_Mdl_jump_180 : decode b_Mdl_jump 180 = .ok (.invokevirtual 176, 3) := by decide +kernel
theorem d_Mdl_jump_183 : decode b_Mdl_jump 183 = .ok (.goto 140, 3) := by decide +kernel
theorem d_Mdl_jump_186 : decode b_Mdl_jump 186 = .ok (.aload_n 0, 1) := by decide +kernel
theorem d_Mdl_jump_187 : decode b_Mdl_jump 187 = .ok (.aload_n 0, 1) := by decide +kernel
theorem d_Mdl_jump_188 : decode b_Mdl_jump 188 = .ok (.iconst 1, 1) := by decide +kernel
theorem d_Mdl_jump_189 : decode b_Mdl_jump 189 = .ok (.invokevirtual 67, 3) := by decide +kernel
theorem d_Mdl_jump_192 : decode b_Mdl_jump 192 = .ok (.ifCond .ne 7, 3) := by decide +kernel
theorem d_Mdl_jump_195 : decode b_Mdl_jump 195 = .ok (.iconst 1, 1) := by decide +kernel
theorem d_Mdl_jump_196 : decode b_Mdl_jump 196 = .ok (.goto 4, 3) := by decide +kernel
theorem d_Mdl_jump_199 : decode b_Mdl_jump 199 = .ok (.iconst 0, 1) := by decide +kernel
theorem d_Mdl_jump_200 : decode b_Mdl_jump 200 = .ok (.invokevirtual 176, 3) := by decide +kernel
theorem d_Mdl_jump_203 : decode b_Mdl_jump 203 = .ok (.goto 120, 3) := by decide +kernel
theorem d_Mdl_jump_206 : decode b_Mdl_jump 206 = .ok (.aload_n 0, 1) := by decide +kernel
theorem d_Mdl_jump_207 : decode b_Mdl_jump 207 = .ok (.aload_n 0, 1) := by decide +kernel
theorem d_Mdl_jump_208 : decode b_Mdl_jump 208 = .ok (.iconst 1, 1) := by decide +kernel
theorem d_Mdl_jump_209 : decode b_Mdl_jump 209 = .ok (.invokevirtual 67, 3) := by decide +kernel
theorem d_Mdl_jump_212 : decode b_Mdl_jump 212 = .ok (.invokevirtual 176, 3) := by decide +kernel
theorem d_Mdl_jump_215 : decode b_Mdl_jump 215 = .ok (.goto 108, 3) := by decide +kernel
theorem d_Mdl_jump_218 : decode b_Mdl_jump 218 = .ok (.aload_n 0, 1) := by decide +kernel
theorem d_Mdl_jump_219 : decode b_Mdl_jump 219 = .ok (.aload_n 0, 1) := by decide +kernel
theorem d_Mdl_jump_220 : decode b_Mdl_jump 220 = .ok (.iconst 2, 1) := by decide +kernel
theorem d_Mdl_jump_221 : decode b_Mdl_jump 221 = .ok (.invokevirtual 67, 3) := by decide +kernel
theorem d_Mdl_jump_224 : decode b_Mdl_jump 224 = .ok (.ifCond .ne 7, 3) := by decide +kernel
theorem d_Mdl_jump_227 : decode b_Mdl_jump 227 = .ok (.iconst 1, 1) := by decide +kernel
theorem d_Mdl_jump_228 : decode b_Mdl_jump 228 = .ok (.goto 4, 3) := by decide +kernel
theorem d_Mdl_jump_231 : decode b_Mdl_jump 231 = .ok (.iconst 0, 1) := by decide +kernel
theorem d_Mdl_jump_232 : decode b_Mdl_jump 232 = .ok (.invokevirtual 176, 3) := by decide +kernel
theorem d_Mdl_jump_235 : decode b_Mdl_jump 235 = .ok (.goto 88, 3) := by decide +kernel
theorem d_Mdl_jump_238 : decode b_Mdl_jump 238 = .ok (.aload_n 0, 1) := by decide +kernel
theorem d_Mdl_jump_239 : decode b_Mdl_jump 239 = .ok (.aload_n 0, 1) := by decide +kernel
theorem d_Mdl_jump_240 : decode b_Mdl_jump 240 = .ok (.iconst 2, 1) := by decide +kernel
theorem d_Mdl_jump_241 : decode b_Mdl_jump 241 = .ok (.invokevirtual 67, 3) := by decide +kernel
theorem d_Mdl_jump_244 : decode b_Mdl_jump 244 = .ok (.invokevirtual 176, 3) := by decide +kernel
theorem d_Mdl_jump_247 : decode b_Mdl_jump 247 = .ok (.goto 76, 3) := by decide +kernel
theorem d_Mdl_jump_250 : decode b_Mdl_jump 250 = .ok (.aload_n 0, 1) := by decide +kernel
theorem d_Mdl_jump_251 : decode b_Mdl_jump 251 = .ok (.iconst 1, 1) := by decide +kernel
theorem d_Mdl_jump_252 : decode b_Mdl_jump 252 = .ok (.invokevirtual 176, 3) := by decide +kernel
theorem d_Mdl_jump_255 : decode b_Mdl_jump 255 = .ok (.goto 68, 3) := by decide +kernel
theorem d_Mdl_jump_258 : decode b_Mdl_jump 258 = .ok (.aload_n 0, 1) := by decide +kernel
theorem d_Mdl_jump_259 : decode b_Mdl_jump 259 = .ok (.invokevirtual 64, 3) := by decide +kernel
theorem d_Mdl_jump_262 : decode b_Mdl_jump 262 = .ok (.istore_n 2, 1) := by decide +kernel
theorem d_Mdl_jump_263 : decode b_Mdl_jump 263 = .ok (.aload_n 0, 1) := by decide +kernel
theorem d_Mdl_jump_264 : decode b_Mdl_jump 264 = .ok (.aload_n 0, 1) := by decide +kernel
theorem d_Mdl_jump_265 : decode b_Mdl_jump 265 = .ok (.getfield 58, 3) := by decide +kernel
theorem d_Mdl_jump_268 : decode b_Mdl_jump 268 = .ok (.iload_n 2, 1) := by decide +kernel
theorem d_Mdl_jump_269 : decode b_Mdl_jump 269 = .ok (.iadd, 1) := by decide +kernel
theorem d_Mdl_jump_270 : decode b_Mdl_jump 270 = .ok (.ldc 35, 2) := by decide +kernel
theorem d_Mdl_jump_272 : decode b_Mdl_jump 272 = .ok (.iand, 1) := by decide +kernel
theorem d_Mdl_jump_273 : decode b_Mdl_jump 273 = .ok (.putfield 58, 3) := by decide +kernel
theorem d_Mdl_jump_276 : decode b_Mdl_jump 276 = .ok (.goto 47, 3) := by decide +kernel
theorem d_Mdl_jump_279 : decode b_Mdl_jump 279 = .ok (.aload_n 0, 1) := by decide +kernel
theorem d_Mdl_jump_280 : decode b_Mdl_jump 280 = .ok (.aload_n 0, 1) := by decide +kernel
theorem d_Mdl_jump_281 : decode b_Mdl_jump 281 = .ok (.invokevirtual 64, 3) := by decide +kernel
theorem d_Mdl_jump_284 : decode b_Mdl_jump 284 = .ok (.putfield 58, 3) := by decide +kernel
theorem d_Mdl_jump_287 : decode b_Mdl_jump 287 = .ok (.goto 36, 3) := by decide +kernel
theorem d_Mdl_jump_290 : decode b_Mdl_jump 290 = .ok (.aload_n 0, 1) := by decide +kernel
theorem d_Mdl_jump_291 : decode b_Mdl_jump 291 = .ok (.aload_n 0, 1) := by decide +kernel
theorem d_Mdl_jump_292 : decode b_Mdl_jump 292 = .ok (.invokevirtual 64, 3) := by decide +kernel
theorem d_Mdl_jump_295 : decode b_Mdl_jump 295 = .ok (.invokevirtual 179, 3) := by decide +kernel
theorem d_Mdl_jump_298 : decode b_Mdl_jump 298 = .ok (.goto 25, 3) := by decide +kernel
theorem d_Mdl_jump_301 : decode b_Mdl_jump 301 = .ok (.aload_n 0, 1) := by decide +kernel
theorem d_Mdl_jump_302 : decode b_Mdl_jump 302 = .ok (.aload_n 0, 1) := by decide +kernel
theorem d_Mdl_jump_303 : decode b_Mdl_jump 303 = .ok (.invokevirtual 164, 3) := by decide +kernel
theorem d_Mdl_jump_306 : decode b_Mdl_jump 306 = .ok (.iconst 1, 1) := by decide +kernel
theorem d_Mdl_jump_307 : decode b_Mdl_jump 307 = .ok (.iadd, 1) := by decide +kernel
theorem d_Mdl_jump_308 : decode b_Mdl_jump 308 = .ok (.ldc 35, 2) := by decide +kernel
theorem d_Mdl_jump_310 : decode b_Mdl_jump 310 = .ok (.iand, 1) := by decide +kernel
theorem d_Mdl_jump_311 : decode b_Mdl_jump 311 = .ok (.putfield 58, 3) := by decide +kernel
theorem d_Mdl_jump_314 : decode b_Mdl_jump 314 = .ok (.goto 9, 3) := by decide +kernel
theorem d_Mdl_jump_317 : decode b_Mdl_jump 317 = .ok (.aload_n 0, 1) := by decide +kernel
theorem d_Mdl_jump_318 : decode b_Mdl_jump 318 = .ok (.iload_n 1, 1) := by decide +kernel
theorem d_Mdl_jump_319 : decode b_Mdl_jump 319 = .ok (.invokevirtual 182, 3) := by decide +kernel
theorem d_Mdl_jump_322 : decode b_Mdl_jump 322 = .ok (.ireturn, 1) := by decide +kernel
theorem d_Mdl_jump_323 : decode b_Mdl_jump 323 = .ok (.iconst 1, 1) := by decide +kernel
theorem d_Mdl_jump_324 : decode b_Mdl_jump 324 = .ok (.ireturn, 1) := by decide +kernel
theorem d_Mdl_longJump_0 : decode b_Mdl_longJump 0 = .ok (.iload_n 1, 1) := by decide +kernel
theorem d_Mdl_longJump_1 : decode b_Mdl_longJump 1 = .ok (.bipush 92, 2) := by decide +kernel
theorem d_Mdl_longJump_3 : decode b_Mdl_longJump 3 = .ok (.if_icmp .ne 27, 3) := by decide +kernel
theorem d_Mdl_longJump_6 : decode b_Mdl_longJump 6 = .ok (.aload_n 0, 1) := by decide +kernel
theorem d_Mdl_longJump_7 : decode b_Mdl_longJump 7 = .ok (.invokevirtual 108, 3) := by decide +kernel
theorem d_Mdl_longJump_10 : decode b_Mdl_longJump 10 = .ok (.istore_n 2, 1) := by decide +kernel
theorem d_Mdl_longJump_11 : decode b_Mdl_longJump 11 = .ok (.aload_n 0, 1) := by decide +kernel
theorem d_Mdl_longJump_12 : decode b_Mdl_longJump 12 = .ok (.iload_n 2, 1) := by decide +kernel
theorem d_Mdl_longJump_13 : decode b_Mdl_longJump 13 = .ok (.bipush 16, 2) := by decide +kernel
theorem d_Mdl_longJump_15 : decode b_Mdl_longJump 15 = .ok (.ishr, 1) := by decide +kernel
theorem d_Mdl_longJump_16 : decode b_Mdl_longJump 16 = .ok (.putfield 55, 3) := by decide +kernel
theorem d_Mdl_longJump_19 : decode b_Mdl_longJump 19 = .ok (.aload_n 0, 1) := by decide +kernel
theorem d_Mdl_longJump_20 : decode b_Mdl_longJump 20 = .ok (.iload_n 2, 1) := by decide +kernel
theorem d_Mdl_longJump_21 : decode b_Mdl_longJump 21 = .ok (.ldc 35, 2) := by decide +kernel
theorem d_Mdl_longJump_23 : decode b_Mdl_longJump 23 = .ok (.iand, 1) := by decide +kernel
theorem d_Mdl_longJump_24 : decode b_Mdl_longJump 24 = .ok (.putfield 58, 3) := by decide +kernel
theorem d_Mdl_longJump_27 : decode b_Mdl_longJump 27 = .ok (.goto 122, 3) := by decide +kernel
theorem d_Mdl_longJump_30 : decode b_Mdl_longJump 30 = .ok (.iload_n 1, 1) := by decide +kernel
theorem d_Mdl_longJump_31 : decode b_Mdl_longJump 31 = .ok (.bipush 34, 2) := by decide +kernel
theorem d_Mdl_longJump_33 : decode b_Mdl_longJump 33 = .ok (.if_icmp .ne 32, 3) := by decide +kernel
theorem d_Mdl_longJump_36 : decode b_Mdl_longJump 36 = .ok (.aload_n 0, 1) := by decide +kernel
theorem d_Mdl_longJump_37 : decode b_Mdl_longJump 37 = .ok (.invokevirtual 108, 3) := by decide +kernel
theorem d_Mdl_longJump_40 : decode b_Mdl_longJump 40 = .ok (.istore_n 2, 1) := by decide +kernel
theorem d_Mdl_longJump_41 : decode b_Mdl_longJump 41 = .ok (.aload_n 0, 1) := by decide +kernel
theorem d_Mdl_longJump_42 : decode b_Mdl_longJump 42 = .ok (.aload_n 0, 1) := by decide +kernel
theorem d_Mdl_longJump_43 : decode b_Mdl_longJump 43 = .ok (.getfield 55, 3) := by decide +kernel
theorem d_Mdl_longJump_46 : decode b_Mdl_longJump 46 = .ok (.invokevirtual 48, 3) := by decide +kernel
theorem d_Mdl_longJump_49 : decode b_Mdl_longJump 49 = .ok (.aload_n 0, 1) := by decide +kernel
theorem d_Mdl_longJump_50 : decode b_Mdl_longJump 50 = .ok (.iload_n 2, 1) := by decide +kernel
theorem d_Mdl_longJump_51 : decode b_Mdl_longJump 51 = .ok (.invokevirtual 179, 3) := by decide +kernel
theorem d_Mdl_longJump_54 : decode b_Mdl_longJump 54 = .ok (.aload_n 0, 1) := by decide +kernel
theorem d_Mdl_longJump_55 : decode b_Mdl_longJump 55 = .ok (.iload_n 2, 1) := by decide +kernel
theorem d_Mdl_longJump_56 : decode b_Mdl_longJump 56 = .ok (.bipush 16, 2) := by decide +kernel
theorem d_Mdl_longJump_58 : decode b_Mdl_longJump 58 = .ok (.ishr, 1) := by decide +kernel
theorem d_Mdl_longJump_59 : decode b_Mdl_longJump 59 = .ok (.putfield 55, 3) := by decide +kernel
theorem d_Mdl_longJump_62 : decode b_Mdl_longJump 62 = .ok (.goto 87, 3) := by decide +kernel
theorem d_Mdl_longJump_65 : decode b_Mdl_longJump 65 = .ok (.iload_n 1, 1) := by decide +kernel
theorem d_Mdl_longJump_66 : decode b_Mdl_longJump 66 = .ok (.bipush 107, 2) := by decide +kernel
theorem d_Mdl_longJump_68 : decode b_Mdl_longJump 68 = .ok (.if_icmp .ne 27, 3) := by decide +kernel
theorem d_Mdl_longJump_71 : decode b_Mdl_longJump 71 = .ok (.aload_n 0, 1) := by decide +kernel
theorem d_Mdl_longJump_72 : decode b_Mdl_longJump 72 = .ok (.aload_n 0, 1) := by decide +kernel
theorem d_Mdl_longJump_73 : decode b_Mdl_longJump 73 = .ok (.invokevirtual 164, 3) := by decide +kernel
theorem d_Mdl_longJump_76 : decode b_Mdl_longJump 76 = .ok (.iconst 1, 1) := by decide +kernel
theorem d_Mdl_longJump_77 : decode b_Mdl_longJump 77 = .ok (.iadd, 1) := by decide +kernel
theorem d_Mdl_longJump_78 : decode b_Mdl_longJump 78 = .ok (.ldc 35, 2) := by decide +kernel
theorem d_Mdl_longJump_80 : decode b_Mdl_longJump 80 = .ok (.iand, 1) := by decide +kernel
theorem d_Mdl_longJump_81 : decode b_Mdl_longJump 81 = .ok (.putfield 58, 3) := by decide +kernel
theorem d_Mdl_longJump_84 : decode b_Mdl_longJump 84 = .ok (.aload_n 0, 1) := by decide +kernel
theorem d_Mdl_longJump_85 : decode b_Mdl_longJump 85 = .ok (.aload_n 0, 1) := by decide +kernel
theorem d_Mdl_longJump_86 : decode b_Mdl_longJump 86 = .ok (.invokevirtual 51, 3) := by decide +kernel
theorem d_Mdl_longJump_89 : decode b_Mdl_longJump 89 = .ok (.putfield 55, 3) := by decide +kernel
theorem d_Mdl_longJump_92 : decode b_Mdl_longJump 92 = .ok (.goto 57, 3) := by decide +kernel
theorem d_Mdl_longJump_95 : decode b_Mdl_longJump 95 = .ok (.iload_n 1, 1) := by decide +kernel
theorem d_Mdl_longJump_96 : decode b_Mdl_longJump 96 = .ok (.ifCond .ne 18, 3) := by decide +kernel
theorem d_Mdl_longJump_99 : decode b_Mdl_longJump 99 = .ok (.aload_n 0, 1) := by decide +kernel
theorem d_Mdl_longJump_100 : decode b_Mdl_longJump 100 = .ok (.invokevirtual 61, 3) := by decide +kernel
theorem d_Mdl_longJump_103 : decode b_Mdl_longJump 103 = .ok (.istore_n 2, 1) := by decide +kernel
theorem d_Mdl_longJump_104 : decode b_Mdl_longJump 104 = .ok (.aload_n 0, 1) := by decide +kernel
theorem d_Mdl_longJump_105 : decode b_Mdl_longJump 105 = .ok (.sipush 486, 3) := by decide +kernel
theorem d_Mdl_longJump_108 : decode b_Mdl_longJump 108 = .ok (.invokevirtual 185, 3) := by decide +kernel
theorem d_Mdl_longJump_111 : decode b_Mdl_longJump 111 = .ok (.goto 38, 3) := by decide +kernel
theorem d_Mdl_longJump_114 : decode b_Mdl_longJump 114 = .ok (.iload_n 1, 1) := by decide +kernel
theorem d_Mdl_longJump_115 : decode b_Mdl_longJump 115 = .ok (.bipush 64, 2) := by decide +kernel
theorem d_Mdl_longJump_117 : decode b_Mdl_longJump 117 = .ok (.if_icmp .ne 30, 3) := by decide +kernel
theorem d_Mdl_longJump_120 : decode b_Mdl_longJump 120 = .ok (.aload_n 0, 1) := by decide +kernel
theorem d_Mdl_longJump_121 : decode b_Mdl_longJump 121 = .ok (.aload_n 0, 1) := by decide +kernel
theorem d_Mdl_longJump_122 : decode b_Mdl_longJump 122 = .ok (.invokevirtual 51, 3) := by decide +kernel
theorem d_Mdl_longJump_125 : decode b_Mdl_longJump 125 = .ok (.invokevirtual 173, 3) := by decide +kernel
theorem d_Mdl_longJump_128 : decode b_Mdl_longJump 128 = .ok (.aload_n 0, 1) := by decide +kernel
theorem d_Mdl_longJump_129 : decode b_Mdl_longJump 129 = .ok (.aload_n 0, 1) := by decide +kernel
theorem d_Mdl_longJump_130 : decode b_Mdl_longJump 130 = .ok (.invokevirtual 164, 3) := by decide +kernel
theorem d_Mdl_longJump_133 : decode b_Mdl_longJump 133 = .ok (.putfield 58, 3) := by decide +kernel
theorem d_Mdl_longJump_136 : decode b_Mdl_longJump 136 = .ok (.aload_n 0, 1) := by decide +kernel
theorem d_Mdl_longJump_137 : decode b_Mdl_longJump 137 = .ok (.aload_n 0, 1) := by decide +kernel
theorem d_Mdl_longJump_138 : decode b_Mdl_longJump 138 = .ok (.invokevirtual 51, 3) := by decide +kernel
theorem d_Mdl_longJump_141 : decode b_Mdl_longJump 141 = .ok (.putfield 55, 3) := by decide +kernel
theorem d_Mdl_longJump_144 : decode b_Mdl_longJump 144 = .ok (.goto 5, 3) := by decide +kernel
theorem d_Mdl_longJump_147 : decode b_Mdl_longJump 147 = .ok (.iconst 0, 1) := by decide +kernel
theorem d_Mdl_longJump_148 : decode b_Mdl_longJump 148 = .ok (.ireturn, 1) := by decide +kernel
theorem d_Mdl_longJump_149 : decode b_Mdl_longJump 149 = .ok (.iconst 1, 1) := by decide +kernel
theorem d_Mdl_longJump_150 : decode b_Mdl_longJump 150 = .ok (.ireturn, 1) := by decide +kernel
theorem d_Mdl_moveBlock_0 : decode b_Mdl_moveBlock 0 = .ok (.aload_n 0, 1) := by decide +kernel
theorem d_Mdl_moveBlock_1 : decode b_Mdl_moveBlock 1 = .ok (.getfield 58, 3) := by decide +kernel
theorem d_Mdl_moveBlock_4 : decode b_Mdl_moveBlock 4 = .ok (.iconst 1, 1) := by decide +kernel
theorem d_Mdl_moveBlock_5 : decode b_Mdl_moveBlock 5 = .ok (.isub, 1) := by decide +kernel
theorem d_Mdl_moveBlock_6 : decode b_Mdl_moveBlock 6 = .ok (.ldc 35, 2) := by decide +kernel
theorem d_Mdl_moveBlock_8 : decode b_Mdl_moveBlock 8 = .ok (.iand, 1) := by decide +kernel
theorem d_Mdl_moveBlock_9 : decode b_Mdl_moveBlock 9 = .ok (.istore_n 2, 1) := by decide +kernel
theorem d_Mdl_moveBlock_10 : decode b_Mdl_moveBlock 10 = .ok (.aload_n 0, 1) := by decide +kernel
theorem d_Mdl_moveBlock_11 : decode b_Mdl_moveBlock 11 = .ok (.invokevirtual 61, 3) := by decide +kernel
theorem d_Mdl_moveBlock_14 : decode b_Mdl_moveBlock 14 = .ok (.istore_n 3, 1) := by decide +kernel
theorem d_Mdl_moveBlock_15 : decode b_Mdl_moveBlock 15 = .ok (.aload_n 0, 1) := by decide +kernel
theorem d_Mdl_moveBlock_16 : decode b_Mdl_moveBlock 16 = .ok (.invokevirtual 61, 3) := by decide +kernel
theorem d_Mdl_moveBlock_19 : decode b_Mdl_moveBlock 19 = .ok (.istore 4, 2) := by decide +kernel
theorem d_Mdl_moveBlock_21 : decode b_Mdl_moveBlock 21 = .ok (.aload_n 0, 1) := by decide +kernel
theorem d_Mdl_moveBlock_22 : decode b_Mdl_moveBlock 22 = .ok (.iload_n 3, 1) := by decide +kernel
theorem d_Mdl_moveBlock_23 : decode b_Mdl_moveBlock 23 = .ok (.putfield 102, 3) := by decide +kernel
theorem d_Mdl_moveBlock_26 : decode b_Mdl_moveBlock 26 = .ok (.aload_n 0, 1) := by decide +kernel
theorem d_Mdl_moveBlock_27 : decode b_Mdl_moveBlock 27 = .ok (.iload 4, 2) := by decide +kernel
theorem d_Mdl_moveBlock_29 : decode b_Mdl_moveBlock 29 = .ok (.bipush 16, 2) := by decide +kernel
theorem d_Mdl_moveBlock_31 : decode b_Mdl_moveBlock 31 = .ok (.ishl, 1) := by decide +kernel
theorem d_Mdl_moveBlock_32 : decode b_Mdl_moveBlock 32 = .ok (.aload_n 0, 1) := by decide +kernel
theorem d_Mdl_moveBlock_33 : decode b_Mdl_moveBlock 33 = .ok (.getfield 83, 3) := by decide +kernel
theorem d_Mdl_moveBlock_36 : decode b_Mdl_moveBlock 36 = .ok (.ior, 1) := by decide +kernel
theorem d_Mdl_moveBlock_37 : decode b_Mdl_moveBlock 37 = .ok (.invokevirtual 37, 3) := by decide +kernel
theorem d_Mdl_moveBlock_40 : decode b_Mdl_moveBlock 40 = .ok (.istore 5, 2) := by decide +kernel
theorem d_Mdl_moveBlock_42 : decode b_Mdl_moveBlock 42 = .ok (.aload_n 0, 1) := by decide +kernel
theorem d_Mdl_moveBlock_43 : decode b_Mdl_moveBlock 43 = .ok (.iload_n 3, 1) := by decide +kernel
theorem d_Mdl_moveBlock_44 : decode b_Mdl_moveBlock 44 = .ok (.bipush 16, 2) := by decide +kernel
theorem d_Mdl_moveBlock_46 : decode b_Mdl_moveBlock 46 = .ok (.ishl, 1) := by decide +kernel
theorem d_Mdl_moveBlock_47 : decode b_Mdl_moveBlock 47 = .ok (.aload_n 0, 1) := by decide +kernel
theorem d_Mdl_moveBlock_48 : decode b_Mdl_moveBlock 48 = .ok (.getfield 86, 3) := by decide +kernel
theorem d_Mdl_moveBlock_51 : decode b_Mdl_moveBlock 51 = .ok (.ior, 1) := by decide +kernel
theorem d_Mdl_moveBlock_52 : decode b_Mdl_moveBlock 52 = .ok (.iload 5, 2) := by decide +kernel
theorem d_Mdl_moveBlock_54 : decode b_Mdl_moveBlock 54 = .ok (.invokevirtual 44, 3) := by decide +kernel
theorem d_Mdl_moveBlock_57 : decode b_Mdl_moveBlock 57 = .ok (.aload_n 0, 1) := by decide +kernel
theorem d_Mdl_moveBlock_58 : decode b_Mdl_moveBlock 58 = .ok (.aload_n 0, 1) := by decide +kernel
theorem d_Mdl_moveBlock_59 : decode b_Mdl_moveBlock 59 = .ok (.aload_n 0, 1) := by decide +kernel
theorem d_Mdl_moveBlock_60 : decode b_Mdl_moveBlock 60 = .ok (.getfield 83, 3) := by decide +kernel
theorem d_Mdl_moveBlock_63 : decode b_Mdl_moveBlock 63 = .ok (.iload_n 1, 1) := by decide +kernel
theorem d_Mdl_moveBlock_64 : decode b_Mdl_moveBlock 64 = .ok (.iadd, 1) := by decide +kernel
theorem d_Mdl_moveBlock_65 : decode b_Mdl_moveBlock 65 = .ok (.aload_n 0, 1) := by decide +kernel
theorem d_Mdl_moveBlock_66 : decode b_Mdl_moveBlock 66 = .ok (.bipush 16, 2) := by decide +kernel
theorem d_Mdl_moveBlock_68 : decode b_Mdl_moveBlock 68 = .ok (.invokevirtual 67, 3) := by decide +kernel
theorem d_Mdl_moveBlock_71 : decode b_Mdl_moveBlock 71 = .ok (.invokevirtual 75, 3) := by decide +kernel
theorem d_Mdl_moveBlock_74 : decode b_Mdl_moveBlock 74 = .ok (.putfield 83, 3) := by decide +kernel
theorem d_Mdl_moveBlock_77 : decode b_Mdl_moveBlock 77 = .ok (.aload_n 0, 1) := by decide +kernel
theorem d_Mdl_moveBlock_78 : decode b_Mdl_moveBlock 78 = .ok (.aload_n 0, 1) := by decide +kernel
theorem d_Mdl_moveBlock_79 : decode b_Mdl_moveBlock 79 = .ok (.aload_n 0, 1) := by decide +kernel
theorem d_Mdl_moveBlock_80 : decode b_Mdl_moveBlock 80 = .ok (.getfield 86, 3) := by decide +kernel
theorem d_Mdl_moveBlock_83 : decode b_Mdl_moveBlock 83 = .ok (.iload_n 1, 1) := by decide +kernel
theorem d_Mdl_moveBlock_84 : decode b_Mdl_moveBlock 84 = .ok (.iadd, 1) := by decide +kernel
theorem d_Mdl_moveBlock_85 : decode b_Mdl_moveBlock 85 = .ok (.aload_n 0, 1) := by decide +kernel
theorem d_Mdl_moveBlock_86 : decode b_Mdl_moveBlock 86 = .ok (.bipush 16, 2) := by decide +kernel
theorem d_Mdl_moveBlock_88 : decode b_Mdl_moveBlock 88 = .ok (.invokevirtual 67, 3) := by decide +kernel
theorem d_Mdl_moveBlock_91 : decode b_Mdl_moveBlock 91 = .ok (.invokevirtual 75, 3) := by decide +kernel
theorem d_Mdl_moveBlock_94 : decode b_Mdl_moveBlock 94 = .ok (.putfield 86, 3) := by decide +kernel
theorem d_Mdl_moveBlock_97 : decode b_Mdl_moveBlock 97 = .ok (.aload_n 0, 1) := by decide +kernel
theorem d_Mdl_moveBlock_98 : decode b_Mdl_moveBlock 98 = .ok (.aload_n 0, 1) := by decide +kernel
theorem d_Mdl_moveBlock_99 : decode b_Mdl_moveBlock 99 = .ok (.getfield 71, 3) := by decide +kernel
theorem d_Mdl_moveBlock_102 : decode b_Mdl_moveBlock 102 = .ok (.ifCond .eq 7, 3) := by decide +kernel
theorem d_Mdl_moveBlock_105 : decode b_Mdl_moveBlock 105 = .ok (.iload_n 2, 1) := by decide +kernel
theorem d_Mdl_moveBlock_106 : decode b_Mdl_moveBlock 106 = .ok (.goto 7, 3) := by decide +kernel
theorem d_Mdl_moveBlock_109 : decode b_Mdl_moveBlock 109 = .ok (.aload_n 0, 1) := by decide +kernel
theorem d_Mdl_moveBlock_110 : decode b_Mdl_moveBlock 110 = .ok (.getfield 58, 3) := by decide +kernel
theorem d_Mdl_moveBlock_113 : decode b_Mdl_moveBlock 113 = .ok (.putfield 58, 3) := by decide +kernel
theorem d_Mdl_moveBlock_116 : decode b_Mdl_moveBlock 116 = .ok (.aload_n 0, 1) := by decide +kernel
theorem d_Mdl_moveBlock_117 : decode b_Mdl_moveBlock 117 = .ok (.aload_n 0, 1) := by decide +kernel
theorem d_Mdl_moveBlock_118 : decode b_Mdl_moveBlock 118 = .ok (.getfield 71, 3) := by decide +kernel
theorem d_Mdl_moveBlock_121 : decode b_Mdl_moveBlock 121 = .ok (.iconst 1, 1) := by decide +kernel
theorem d_Mdl_moveBlock_122 : decode b_Mdl_moveBlock 122 = .ok (.isub, 1) := by decide +kernel
theorem d_Mdl_moveBlock_123 : decode b_Mdl_moveBlock 123 = .ok (.ldc 35, 2) := by decide +kernel
theorem d_Mdl_moveBlock_125 : decode b_Mdl_moveBlock 125 = .ok (.iand, 1) := by decide +kernel
theorem d_Mdl_moveBlock_126 : decode b_Mdl_moveBlock 126 = .ok (.putfield 71, 3) := by decide +kernel
theorem d_Mdl_moveBlock_129 : decode b_Mdl_moveBlock 129 = .ok (.return_, 1) := by decide +kernel
theorem d_Mdl_other_0 : decode b_Mdl_other 0 = .ok (.iload_n 1, 1) := by decide +kernel
theorem d_Mdl_other_1 : decode b_Mdl_other 1 = .ok (.lookupswitch 226 #[(24, 141), (56, 150), (68, 218), (84, 210), (88, 159), (120, 168), (184, 197), (194, 123), (216, 177), (226, 107), (234, 207), (248, 187)], 107) := by decide +kernel
theorem d_Mdl_other_108 : decode b_Mdl_other 108 = .ok (.aload_n 0, 1) := by decide +kernel
theorem d_Mdl_other_109 : decode b_Mdl_other 109 = .ok (.aload_n 0, 1) := by decide +kernel
theorem d_Mdl_other_110 : decode b_Mdl_other 110 = .ok (.getfield 17, 3) := by decide +kernel
theorem d_Mdl_other_113 : decode b_Mdl_other 113 = .ok (.aload_n 0, 1) := by decide +kernel
theorem d_Mdl_other_114 : decode b_Mdl_other 114 = .ok (.invokevirtual 61, 3) := by decide +kernel
theorem d_Mdl_other_117 : decode b_Mdl_other 117 = .ok (.ior, 1) := by decide +kernel
theorem d_Mdl_other_118 : decode b_Mdl_other 118 = .ok (.invokevirtual 173, 3) := by decide +kernel
theorem d_Mdl_other_121 : decode b_Mdl_other 121 = .ok (.goto 108, 3) := by decide +kernel
theorem d_Mdl_other_124 : decode b_Mdl_other 124 = .ok (.aload_n 0, 1) := by decide +kernel
theorem d_Mdl_other_125 : decode b_Mdl_other 125 = .ok (.aload_n 0, 1) := by decide +kernel
theorem d_Mdl_other_126 : decode b_Mdl_other 126 = .ok (.getfield 17, 3) := by decide +kernel
theorem d_Mdl_other_129 : decode b_Mdl_other 129 = .ok (.aload_n 0, 1) := by decide +kernel
theorem d_Mdl_other_130 : decode b_Mdl_other 130 = .ok (.invokevirtual 61, 3) := by decide +kernel
theorem d_Mdl_other_133 : decode b_Mdl_other 133 = .ok (.iconst (-1), 1) := by decide +kernel
theorem d_Mdl_other_134 : decode b_Mdl_other 134 = .ok (.ixor, 1) := by decide +kernel
theorem d_Mdl_other_135 : decode b_Mdl_other 135 = .ok (.iand, 1) := by decide +kernel
theorem d_Mdl_other_136 : decode b_Mdl_other 136 = .ok (.invokevirtual 173, 3) := by decide +kernel
theorem d_Mdl_other_139 : decode b_Mdl_other 139 = .ok (.goto 90, 3) := by decide +kernel
theorem d_Mdl_other_142 : decode b_Mdl_other 142 = .ok (.aload_n 0, 1) := by decide +kernel
theorem d_Mdl_other_143 : decode b_Mdl_other 143 = .ok (.iconst 1, 1) := by decide +kernel
theorem d_Mdl_other_144 : decode b_Mdl_other 144 = .ok (.iconst 0, 1) := by decide +kernel
theorem d_Mdl_other_145 : decode b_Mdl_other 145 = .ok (.invokevirtual 79, 3) := by decide +kernel
theorem d_Mdl_other_148 : decode b_Mdl_other 148 = .ok (.goto 81, 3) := by decide +kernel
theorem d_Mdl_other_151 : decode b_Mdl_other 151 = .ok (.aload_n 0, 1) := by decide +kernel
theorem d_Mdl_other_152 : decode b_Mdl_other 152 = .ok (.iconst 1, 1) := by decide +kernel
theorem d_Mdl_other_153 : decode b_Mdl_other 153 = .ok (.iconst 1, 1) := by decide +kernel
theorem d_Mdl_other_154 : decode b_Mdl_other 154 = .ok (.invokevirtual 79, 3) := by decide +kernel
theorem d_Mdl_other_157 : decode b_Mdl_other 157 = .ok (.goto 72, 3) := by decide +kernel
theorem d_Mdl_other_160 : decode b_Mdl_other 160 = .ok (.aload_n 0, 1) := by decide +kernel
theorem d_Mdl_other_161 : decode b_Mdl_other 161 = .ok (.iconst 4, 1) := by decide +kernel
theorem d_Mdl_other_162 : decode b_Mdl_other 162 = .ok (.iconst 0, 1) := by decide +kernel
theorem d_Mdl_other_163 : decode b_Mdl_other 163 = .ok (.invokevirtual 79, 3) := by decide +kernel
theorem d_Mdl_other_166 : decode b_Mdl_other 166 = .ok (.goto 63, 3) := by decide +kernel
theorem d_Mdl_other_169 : decode b_Mdl_other 169 = .ok (.aload_n 0, 1) := by decide +kernel
theorem d_Mdl_other_170 : decode b_Mdl_other 170 = .ok (.iconst 4, 1) := by decide +kernel
theorem d_Mdl_other_171 : decode b_Mdl_other 171 = .ok (.iconst 1, 1) := by decide +kernel
theorem d_Mdl_other_172 : decode b_Mdl_other 172 = .ok (.invokevirtual 79, 3) := by decide +kernel
theorem d_Mdl_other_175 : decode b_Mdl_other 175 = .ok (.goto 54, 3) := by decide +kernel
theorem d_Mdl_other_178 : decode b_Mdl_other 178 = .ok (.aload_n 0, 1) := by decide +kernel
theorem d_Mdl_other_179 : decode b_Mdl_other 179 = .ok (.bipush 8, 2) := by decide +kernel
theorem d_Mdl_other_181 : decode b_Mdl_other 181 = .ok (.iconst 0, 1) := by decide +kernel
theorem d_Mdl_other_182 : decode b_Mdl_other 182 = .ok (.invokevirtual 79, 3) := by decide +kernel
theorem d_Mdl_other_185 : decode b_Mdl_other 185 = .ok (.goto 44, 3) := by decide +kernel
theorem d_Mdl_other_188 : decode b_Mdl_other 188 = .ok (.aload_n 0, 1) := by decide +kernel
theorem d_Mdl_other_189 : decode b_Mdl_other 189 = .ok (.bipush 8, 2) := by decide +kernel
theorem d_Mdl_other_191 : decode b_Mdl_other 191 = .ok (.iconst 1, 1) := by decide +kernel
theorem d_Mdl_other_192 : decode b_Mdl_other 192 = .ok (.invokevirtual 79, 3) := by decide +kernel
theorem d_Mdl_other_195 : decode b_Mdl_other 195 = .ok (.goto 34, 3) := by decide +kernel
theorem d_Mdl_other_198 : decode b_Mdl_other 198 = .ok (.aload_n 0, 1) := by decide +kernel
theorem d_Mdl_other_199 : decode b_Mdl_other 199 = .ok (.bipush 64, 2) := by decide +kernel
theorem d_Mdl_other_201 : decode b_Mdl_other 201 = .ok (.iconst 0, 1) := by decide +kernel
theorem d_Mdl_other_202 : decode b_Mdl_other 202 = .ok (.invokevirtual 79, 3) := by decide +kernel
theorem d_Mdl_other_205 : decode b_Mdl_other 205 = .ok (.goto 24, 3) := by decide +kernel
theorem d_Mdl_other_208 : decode b_Mdl_other 208 = .ok (.goto 21, 3) := by decide +kernel
theorem d_Mdl_other_211 : decode b_Mdl_other 211 = .ok (.aload_n 0, 1) := by decide +kernel
theorem d_Mdl_other_212 : decode b_Mdl_other 212 = .ok (.iconst 1, 1) := by decide +kernel
theorem d_Mdl_other_213 : decode b_Mdl_other 213 = .ok (.invokevirtual 188, 3) := by decide +kernel
theorem d_Mdl_other_216 : decode b_Mdl_other 216 = .ok (.goto 13, 3) := by decide +kernel
theorem d_Mdl_other_219 : decode b_Mdl_other 219 = .ok (.aload_n 0, 1) := by decide +kernel
theorem d_Mdl_other_220 : decode b_Mdl_other 220 = .ok (.iconst (-1), 1) := by decide +kernel
theorem d_Mdl_other_221 : decode b_Mdl_other 221 = .ok (.invokevirtual 188, 3) := by decide +kernel
theorem d_Mdl_other_224 : decode b_Mdl_other 224 = .ok (.goto 5, 3) := by decide +kernel
theorem d_Mdl_other_227 : decode b_Mdl_other 227 = .ok (.iconst 0, 1) := by decide +kernel
theorem d_Mdl_other_228 : decode b_Mdl_other 228 = .ok (.ireturn, 1) := by decide +kernel
theorem d_Mdl_other_229 : decode b_Mdl_other 229 = .ok (.iconst 1, 1) := by decide +kernel
theorem d_Mdl_other_230 : decode b_Mdl_other 230 = .ok (.ireturn, 1) := by decide +kernel
theorem d_Mdl_interruptFrom_0 : decode b_Mdl_interruptFrom 0 = .ok (.aload_n 0, 1) := by decide +kernel
theorem d_Mdl_interruptFrom_1 : decode b_Mdl_interruptFrom 1 = .ok (.aload_n 0, 1) := by decide +kernel
theorem d_Mdl_interruptFrom_2 : decode b_Mdl_interruptFrom 2 = .ok (.getfield 55, 3) := by decide +kernel
theorem d_Mdl_interruptFrom_5 : decode b_Mdl_interruptFrom 5 = .ok (.invokevirtual 48, 3) := by decide +kernel
theorem d_Mdl_interruptFrom_8 : decode b_Mdl_interruptFrom 8 = .ok (.aload_n 0, 1) := by decide +kernel
theorem d_Mdl_interruptFrom_9 : decode b_Mdl_interruptFrom 9 = .ok (.aload_n 0, 1) := by decide +kernel
theorem d_Mdl_interruptFrom_10 : decode b_Mdl_interruptFrom 10 = .ok (.getfield 58, 3) := by decide +kernel
theorem d_Mdl_interruptFrom_13 : decode b_Mdl_interruptFrom 13 = .ok (.invokevirtual 161, 3) := by decide +kernel
theorem d_Mdl_interruptFrom_16 : decode b_Mdl_interruptFrom 16 = .ok (.aload_n 0, 1) := by decide +kernel
theorem d_Mdl_interruptFrom_17 : decode b_Mdl_interruptFrom 17 = .ok (.aload_n 0, 1) := by decide +kernel
theorem d_Mdl_interruptFrom_18 : decode b_Mdl_interruptFrom 18 = .ok (.getfield 17, 3) := by decide +kernel
theorem d_Mdl_interruptFrom_21 : decode b_Mdl_interruptFrom 21 = .ok (.invokevirtual 48, 3) := by decide +kernel
theorem d_Mdl_interruptFrom_24 : decode b_Mdl_interruptFrom 24 = .ok (.aload_n 0, 1) := by decide +kernel
theorem d_Mdl_interruptFrom_25 : decode b_Mdl_interruptFrom 25 = .ok (.iconst 4, 1) := by decide +kernel
theorem d_Mdl_interruptFrom_26 : decode b_Mdl_interruptFrom 26 = .ok (.iconst 1, 1) := by decide +kernel
theorem d_Mdl_interruptFrom_27 : decode b_Mdl_interruptFrom 27 = .ok (.invokevirtual 79, 3) := by decide +kernel
theorem d_Mdl_interruptFrom_30 : decode b_Mdl_interruptFrom 30 = .ok (.aload_n 0, 1) := by decide +kernel
theorem d_Mdl_interruptFrom_31 : decode b_Mdl_interruptFrom 31 = .ok (.bipush 8, 2) := by decide +kernel
theorem d_Mdl_interruptFrom_33 : decode b_Mdl_interruptFrom 33 = .ok (.iconst 0, 1) := by decide +kernel
theorem d_Mdl_interruptFrom_34 : decode b_Mdl_interruptFrom 34 = .ok (.invokevirtual 79, 3) := by decide +kernel
theorem d_Mdl_interruptFrom_37 : decode b_Mdl_interruptFrom 37 = .ok (.aload_n 0, 1) := by decide +kernel
theorem d_Mdl_interruptFrom_38 : decode b_Mdl_interruptFrom 38 = .ok (.iconst 0, 1) := by decide +kernel
theorem d_Mdl_interruptFrom_39 : decode b_Mdl_interruptFrom 39 = .ok (.putfield 55, 3) := by decide +kernel
theorem d_Mdl_interruptFrom_42 : decode b_Mdl_interruptFrom 42 = .ok (.aload_n 0, 1) := by decide +kernel
theorem d_Mdl_interruptFrom_43 : decode b_Mdl_interruptFrom 43 = .ok (.aload_n 0, 1) := by decide +kernel
theorem d_Mdl_interruptFrom_44 : decode b_Mdl_interruptFrom 44 = .ok (.iload_n 1, 1) := by decide +kernel
theorem d_Mdl_interruptFrom_45 : decode b_Mdl_interruptFrom 45 = .ok (.iconst 1, 1) := by decide +kernel
theorem d_Mdl_interruptFrom_46 : decode b_Mdl_interruptFrom 46 = .ok (.invokevirtual 111, 3) := by decide +kernel
theorem d_Mdl_interruptFrom_49 : decode b_Mdl_interruptFrom 49 = .ok (.putfield 58, 3) := by decide +kernel
theorem d_Mdl_interruptFrom_52 : decode b_Mdl_interruptFrom 52 = .ok (.return_, 1) := by decide +kernel
theorem d_Mdl_step_0 : decode b_Mdl_step 0 = .ok (.aload_n 0, 1) := by decide +kernel
theorem d_Mdl_step_1 : decode b_Mdl_step 1 = .ok (.dup, 1) := by decide +kernel
theorem d_Mdl_step_2 : decode b_Mdl_step 2 = .ok (.getfield 191, 3) := by decide +kernel
theorem d_Mdl_step_5 : decode b_Mdl_step 5 = .ok (.iconst 1, 1) := by decide +kernel
theorem d_Mdl_step_6 : decode b_Mdl_step 6 = .ok (.iadd, 1) := by decide +kernel
theorem d_Mdl_step_7 : decode b_Mdl_step 7 = .ok (.putfield 191, 3) := by decide +kernel
theorem d_Mdl_step_10 : decode b_Mdl_step 10 = .ok (.aload_n 0, 1) := by decide +kernel
theorem d_Mdl_step_11 : decode b_Mdl_step 11 = .ok (.getfield 194, 3) := by decide +kernel
theorem d_Mdl_step_14 : decode b_Mdl_step 14 = .ok (.ifCond .eq 16, 3) := by decide +kernel
theorem d_Mdl_step_17 : decode b_Mdl_step 17 = .ok (.aload_n 0, 1) := by decide +kernel
theorem d_Mdl_step_18 : decode b_Mdl_step 18 = .ok (.iconst 0, 1) := by decide +kernel
theorem d_Mdl_step_19 : decode b_Mdl_step 19 = .ok (.putfield 194, 3) := by decide +kernel
theorem d_Mdl_step_22 : decode b_Mdl_step 22 = .ok (.aload_n 0, 1) := by decide +kernel
theorem d_Mdl_step_23 : decode b_Mdl_step 23 = .ok (.sipush 490, 3) := by decide +kernel
theorem d_Mdl_step_26 : decode b_Mdl_step 26 = .ok (.invokevirtual 185, 3) := by decide +kernel
theorem d_Mdl_step_29 : decode b_Mdl_step 29 = .ok (.return_, 1) := by decide +kernel
theorem d_Mdl_step_30 : decode b_Mdl_step 30 = .ok (.aload_n 0, 1) := by decide +kernel
theorem d_Mdl_step_31 : decode b_Mdl_step 31 = .ok (.getfield 197, 3) := by decide +kernel
theorem d_Mdl_step_34 : decode b_Mdl_step 34 = .ok (.ifCond .eq 19, 3) := by decide +kernel
theorem d_Mdl_step_37 : decode b_Mdl_step 37 = .ok (.aload_n 0, 1) := by decide +kernel
theorem d_Mdl_step_38 : decode b_Mdl_step 38 = .ok (.iconst 4, 1) := by decide +kernel
theorem d_Mdl_step_39 : decode b_Mdl_step 39 = .ok (.invokevirtual 67, 3) := by decide +kernel
theorem d_Mdl_step_42 : decode b_Mdl_step 42 = .ok (.ifCond .ne 11, 3) := by decide +kernel
theorem d_Mdl_step_45 : decode b_Mdl_step 45 = .ok (.aload_n 0, 1) := by decide +kernel
theorem d_Mdl_step_46 : decode b_Mdl_step 46 = .ok (.sipush 494, 3) := by decide +kernel
theorem d_Mdl_step_49 : decode b_Mdl_step 49 = .ok (.invokevirtual 185, 3) := by decide +kernel
theorem d_Mdl_step_52 : decode b_Mdl_step 52 = .ok (.return_, 1) := by decide +kernel
theorem d_Mdl_step_53 : decode b_Mdl_step 53 = .ok (.aload_n 0, 1) := by decide +kernel
theorem d_Mdl_step_54 : decode b_Mdl_step 54 = .ok (.invokevirtual 61, 3) := by decide +kernel
theorem d_Mdl_step_57 : decode b_Mdl_step 57 = .ok (.istore_n 1, 1) := by decide +kernel
theorem d_Mdl_step_58 : decode b_Mdl_step 58 = .ok (.iload_n 1, 1) := by decide +kernel
theorem d_Mdl_step_59 : decode b_Mdl_step 59 = .ok (.bipush 31, 2) := by decide +kernel
theorem d_Mdl_step_61 : decode b_Mdl_step 61 = .ok (.iand, 1) := by decide +kernel
theorem d_Mdl_step_62 : decode b_Mdl_step 62 = .ok (.istore_n 2, 1) := by decide +kernel
theorem d_Mdl_step_63 : decode b_Mdl_step 63 = .ok (.iload_n 2, 1) := by decide +kernel
theorem d_Mdl_step_64 : decode b_Mdl_step 64 = .ok (.iconst 1, 1) := by decide +kernel
theorem d_Mdl_step_65 : decode b_Mdl_step 65 = .ok (.iand, 1) := by decide +kernel
theorem d_Mdl_step_66 : decode b_Mdl_step 66 = .ok (.iconst 1, 1) := by decide +kernel
theorem d_Mdl_step_67 : decode b_Mdl_step 67 = .ok (.if_icmp .ne 15, 3) := by decide +kernel
theorem d_Mdl_step_70 : decode b_Mdl_step 70 = .ok (.iload_n 2, 1) := by decide +kernel
theorem d_Mdl_step_71 : decode b_Mdl_step 71 = .ok (.bipush 11, 2) := by decide +kernel
theorem d_Mdl_step_73 : decode b_Mdl_step 73 = .ok (.if_icmp .eq 9, 3) := by decide +kernel
theorem d_Mdl_step_76 : decode b_Mdl_step 76 = .ok (.iload_n 2, 1) := by decide +kernel
theorem d_Mdl_step_77 : decode b_Mdl_step 77 = .ok (.bipush 27, 2) := by decide +kernel
theorem d_Mdl_step_79 : decode b_Mdl_step 79 = .ok (.if_icmp .ne 9, 3) := by decide +kernel
theorem d_Mdl_step_82 : decode b_Mdl_step 82 = .ok (.iload_n 2, 1) := by decide +kernel
theorem d_Mdl_step_83 : decode b_Mdl_step 83 = .ok (.bipush 18, 2) := by decide +kernel
theorem d_Mdl_step_85 : decode b_Mdl_step 85 = .ok (.if_icmp .ne 7, 3) := by decide +kernel
theorem d_Mdl_step_88 : decode b_Mdl_step 88 = .ok (.iconst 1, 1) := by decide +kernel
theorem d_Mdl_step_89 : decode b_Mdl_step 89 = .ok (.goto 4, 3) := by decide +kernel
theorem d_Mdl_step_92 : decode b_Mdl_step 92 = .ok (.iconst 0, 1) := by decide +kernel
theorem d_Mdl_step_93 : decode b_Mdl_step 93 = .ok (.istore_n 3, 1) := by decide +kernel
theorem d_Mdl_step_94 : decode b_Mdl_step 94 = .ok (.iload_n 3, 1) := by decide +kernel
theorem d_Mdl_step_95 : decode b_Mdl_step 95 = .ok (.ifCond .eq 11, 3) := by decide +kernel
theorem d_Mdl_step_98 : decode b_Mdl_step 98 = .ok (.aload_n 0, 1) := by decide +kernel
theorem d_Mdl_step_99 : decode b_Mdl_step 99 = .ok (.iload_n 1, 1) := by decide +kernel
theorem d_Mdl_step_100 : decode b_Mdl_step 100 = .ok (.invokevirtual 200, 3) := by decide +kernel
theorem d_Mdl_step_103 : decode b_Mdl_step 103 = .ok (.goto 56, 3) := by decide +kernel
theorem d_Mdl_step_106 : decode b_Mdl_step 106 = .ok (.aload_n 0, 1) := by decide +kernel
theorem d_Mdl_step_107 : decode b_Mdl_step 107 = .ok (.iload_n 1, 1) := by decide +kernel
theorem d_Mdl_step_108 : decode b_Mdl_step 108 = .ok (.invokevirtual 203, 3) := by decide +kernel
theorem d_Mdl_step_111 : decode b_Mdl_step 111 = .ok (.ifCond .ne 43, 3) := by decide +kernel
theorem d_Mdl_step_114 : decode b_Mdl_step 114 = .ok (.aload_n 0, 1) := by decide +kernel
theorem d_Mdl_step_115 : decode b_Mdl_step 115 = .ok (.iload_n 1, 1) := by decide +kernel
theorem d_Mdl_step_116 : decode b_Mdl_step 116 = .ok (.invokevirtual 206, 3) := by decide +kernel
theorem d_Mdl_step_119 : decode b_Mdl_step 119 = .ok (.ifCond .ne 35, 3) := by decide +kernel
theorem d_Mdl_step_122 : decode b_Mdl_step 122 = .ok (.aload_n 0, 1) := by decide +kernel
theorem d_Mdl_step_123 : decode b_Mdl_step 123 = .ok (.iload_n 1, 1) := by decide +kernel
theorem d_Mdl_step_124 : decode b_Mdl_step 124 = .ok (.invokevirtual 209, 3) := by decide +kernel
theorem d_Mdl_step_127 : decode b_Mdl_step 127 = .ok (.ifCond .ne 27, 3) := by decide +kernel
theorem d_Mdl_step_130 : decode b_Mdl_step 130 = .ok (.aload_n 0, 1) := by decide +kernel
theorem d_Mdl_step_131 : decode b_Mdl_step 131 = .ok (.iload_n 1, 1) := by decide +kernel
theorem d_Mdl_step_132 : decode b_Mdl_step 132 = .ok (.invokevirtual 212, 3) := by decide +kernel
theorem d_Mdl_step_135 : decode b_Mdl_step 135 = .ok (.ifCond .ne 19, 3) := by decide +kernel
theorem d_Mdl_step_138 : decode b_Mdl_step 138 = .ok (.aload_n 0, 1) := by decide +kernel
theorem d_Mdl_step_139 : decode b_Mdl_step 139 = .ok (.iload_n 1, 1) := by decide +kernel
theorem d_Mdl_step_140 : decode b_Mdl_step 140 = .ok (.invokevirtual 215, 3) := by decide +kernel
theorem d_Mdl_step_143 : decode b_Mdl_step 143 = .ok (.ifCond .ne 11, 3) := by decide +kernel
theorem d_Mdl_step_146 : decode b_Mdl_step 146 = .ok (.aload_n 0, 1) := by decide +kernel
theorem d_Mdl_step_147 : decode b_Mdl_step 147 = .ok (.iload_n 1, 1) := by decide +kernel
theorem d_Mdl_step_148 : decode b_Mdl_step 148 = .ok (.invokevirtual 218, 3) := by decide +kernel
theorem d_Mdl_step_151 : decode b_Mdl_step 151 = .ok (.ifCond .eq 7, 3) := by decide +kernel
theorem d_Mdl_step_154 : decode b_Mdl_step 154 = .ok (.iconst 1, 1) := by decide +kernel
theorem d_Mdl_step_155 : decode b_Mdl_step 155 = .ok (.goto 4, 3) := by decide +kernel
theorem d_Mdl_step_158 : decode b_Mdl_step 158 = .ok (.iconst 0, 1) := by decide +kernel
theorem d_Mdl_step_159 : decode b_Mdl_step 159 = .ok (.istore 4, 2) := by decide +kernel
theorem d_Mdl_step_161 : decode b_Mdl_step 161 = .ok (.aload_n 0, 1) := by decide +kernel
theorem d_Mdl_step_162 : decode b_Mdl_step 162 = .ok (.iload 4, 2) := by decide +kernel
theorem d_Mdl_step_164 : decode b_Mdl_step 164 = .ok (.ifCond .ne 7, 3) := by decide +kernel
theorem d_Mdl_step_167 : decode b_Mdl_step 167 = .ok (.iconst 1, 1) := by decide +kernel
theorem d_Mdl_step_168 : decode b_Mdl_step 168 = .ok (.goto 4, 3) := by decide +kernel
theorem d_Mdl_step_171 : decode b_Mdl_step 171 = .ok (.iconst 0, 1) := by decide +kernel
theorem d_Mdl_step_172 : decode b_Mdl_step 172 = .ok (.putfield 221, 3) := by decide +kernel
theorem d_Mdl_step_175 : decode b_Mdl_step 175 = .ok (.return_, 1) := by decide +kernel
theorem d_Mdl_poke_0 : decode b_Mdl_poke 0 = .ok (.iload_n 3, 1) := by decide +kernel
theorem d_Mdl_poke_1 : decode b_Mdl_poke 1 = .ok (.iconst 1, 1) := by decide +kernel
theorem d_Mdl_poke_2 : decode b_Mdl_poke 2 = .ok (.if_icmp .lt 21, 3) := by decide +kernel
theorem d_Mdl_poke_5 : decode b_Mdl_poke 5 = .ok (.iload_n 3, 1) := by decide +kernel
theorem d_Mdl_poke_6 : decode b_Mdl_poke 6 = .ok (.iconst 4, 1) := by decide +kernel
theorem d_Mdl_poke_7 : decode b_Mdl_poke 7 = .ok (.if_icmp .gt 16, 3) := by decide +kernel
theorem d_Mdl_poke_10 : decode b_Mdl_poke 10 = .ok (.iload_n 1, 1) := by decide +kernel
theorem d_Mdl_poke_11 : decode b_Mdl_poke 11 = .ok (.ifCond .lt 12, 3) := by decide +kernel
theorem d_Mdl_poke_14 : decode b_Mdl_poke 14 = .ok (.iload_n 1, 1) := by decide +kernel
theorem d_Mdl_poke_15 : decode b_Mdl_poke 15 = .ok (.sipush 1024, 3) := by decide +kernel
theorem d_Mdl_poke_18 : decode b_Mdl_poke 18 = .ok (.iload_n 3, 1) := by decide +kernel
theorem d_Mdl_poke_19 : decode b_Mdl_poke 19 = .ok (.isub, 1) := by decide +kernel
theorem d_Mdl_poke_20 : decode b_Mdl_poke 20 = .ok (.if_icmp .le 5, 3) := by decide +kernel
theorem d_Mdl_poke_23 : decode b_Mdl_poke 23 = .ok (.iconst 0, 1) := by decide +kernel
theorem d_Mdl_poke_24 : decode b_Mdl_poke 24 = .ok (.ireturn, 1) := by decide +kernel
theorem d_Mdl_poke_25 : decode b_Mdl_poke 25 = .ok (.iconst 0, 1) := by decide +kernel
theorem d_Mdl_poke_26 : decode b_Mdl_poke 26 = .ok (.istore 4, 2) := by decide +kernel
theorem d_Mdl_poke_28 : decode b_Mdl_poke 28 = .ok (.iload 4, 2) := by decide +kernel
theorem d_Mdl_poke_30 : decode b_Mdl_poke 30 = .ok (.iload_n 3, 1) := by decide +kernel
theorem d_Mdl_poke_31 : decode b_Mdl_poke 31 = .ok (.if_icmp .ge 29, 3) := by decide +kernel
theorem d_Mdl_poke_34 : decode b_Mdl_poke 34 = .ok (.aload_n 0, 1) := by decide +kernel
theorem d_Mdl_poke_35 : decode b_Mdl_poke 35 = .ok (.getfield 7, 3) := by decide +kernel
theorem d_Mdl_poke_38 : decode b_Mdl_poke 38 = .ok (.iload_n 1, 1) := by decide +kernel
theorem d_Mdl_poke_39 : decode b_Mdl_poke 39 = .ok (.iload 4, 2) := by decide +kernel
theorem d_Mdl_poke_41 : decode b_Mdl_poke 41 = .ok (.iadd, 1) := by decide +kernel
theorem d_Mdl_poke_42 : decode b_Mdl_poke 42 = .ok (.iload_n 2, 1) := by decide +kernel
theorem d_Mdl_poke_43 : decode b_Mdl_poke 43 = .ok (.bipush 8, 2) := by decide +kernel
theorem d_Mdl_poke_45 : decode b_Mdl_poke 45 = .ok (.iload 4, 2) := by decide +kernel
theorem d_Mdl_poke_47 : decode b_Mdl_poke 47 = .ok (.imul, 1) := by decide +kernel
theorem d_Mdl_poke_48 : decode b_Mdl_poke 48 = .ok (.ishr, 1) := by decide +kernel
theorem d_Mdl_poke_49 : decode b_Mdl_poke 49 = .ok (.sipush 255, 3) := by decide +kernel
theorem d_Mdl_poke_52 : decode b_Mdl_poke 52 = .ok (.iand, 1) := by decide +kernel
theorem d_Mdl_poke_53 : decode b_Mdl_poke 53 = .ok (.iastore, 1) := by decide +kernel
theorem d_Mdl_poke_54 : decode b_Mdl_poke 54 = .ok (.iinc 4 1, 3) := by decide +kernel
theorem d_Mdl_poke_57 : decode b_Mdl_poke 57 = .ok (.goto (-29), 3) := by decide +kernel
theorem d_Mdl_poke_60 : decode b_Mdl_poke 60 = .ok (.iconst 1, 1) := by decide +kernel
theorem d_Mdl_poke_61 : decode b_Mdl_poke 61 = .ok (.ireturn, 1) := by decide +kernel
theorem d_Mdl_peek_0 : decode b_Mdl_peek 0 = .ok (.iload_n 1, 1) := by decide +kernel
theorem d_Mdl_peek_1 : decode b_Mdl_peek 1 = .ok (.ifCond .lt 19, 3) := by decide +kernel
theorem d_Mdl_peek_4 : decode b_Mdl_peek 4 = .ok (.iload_n 1, 1) := by decide +kernel
theorem d_Mdl_peek_5 : decode b_Mdl_peek 5 = .ok (.sipush 1024, 3) := by decide +kernel
theorem d_Mdl_peek_8 : decode b_Mdl_peek 8 = .ok (.if_icmp .ge 12, 3) := by decide +kernel
theorem d_Mdl_peek_11 : decode b_Mdl_peek 11 = .ok (.aload_n 0, 1) := by decide +kernel
theorem d_Mdl_peek_12 : decode b_Mdl_peek 12 = .ok (.getfield 7, 3) := by decide +kernel
theorem d_Mdl_peek_15 : decode b_Mdl_peek 15 = .ok (.iload_n 1, 1) := by decide +kernel
theorem d_Mdl_peek_16 : decode b_Mdl_peek 16 = .ok (.iaload, 1) := by decide +kernel
theorem d_Mdl_peek_17 : decode b_Mdl_peek 17 = .ok (.goto 4, 3) := by decide +kernel
theorem d_Mdl_peek_20 : decode b_Mdl_peek 20 = .ok (.iconst (-1), 1) := by decide +kernel
theorem d_Mdl_peek_21 : decode b_Mdl_peek 21 = .ok (.ireturn, 1) := by decide +kernel
theorem d_Mdl_start_0 : decode b_Mdl_start 0 = .ok (.iload_n 1, 1) := by decide +kernel
theorem d_Mdl_start_1 : decode b_Mdl_start 1 = .ok (.ifCond .lt 20, 3) := by decide +kernel
theorem d_Mdl_start_4 : decode b_Mdl_start 4 = .ok (.iload_n 1, 1) := by decide +kernel
theorem d_Mdl_start_5 : decode b_Mdl_start 5 = .ok (.sipush 255, 3) := by decide +kernel
theorem d_Mdl_start_8 : decode b_Mdl_start 8 = .ok (.if_icmp .gt 13, 3) := by decide +kernel
theorem d_Mdl_start_11 : decode b_Mdl_start 11 = .ok (.iload_n 2, 1) := by decide +kernel
theorem d_Mdl_start_12 : decode b_Mdl_start 12 = .ok (.ifCond .lt 9, 3) := by decide +kernel
theorem d_Mdl_start_15 : decode b_Mdl_start 15 = .ok (.iload_n 2, 1) := by decide +kernel
theorem d_Mdl_start_16 : decode b_Mdl_start 16 = .ok (.ldc 35, 2) := by decide +kernel
theorem d_Mdl_start_18 : decode b_Mdl_start 18 = .ok (.if_icmp .le 5, 3) := by decide +kernel
theorem d_Mdl_start_21 : decode b_Mdl_start 21 = .ok (.iconst 0, 1) := by decide +kernel
theorem d_Mdl_start_22 : decode b_Mdl_start 22 = .ok (.ireturn, 1) := by decide +kernel
theorem d_Mdl_start_23 : decode b_Mdl_start 23 = .ok (.aload_n 0, 1) := by decide +kernel
theorem d_Mdl_start_24 : decode b_Mdl_start 24 = .ok (.iload_n 1, 1) := by decide +kernel
theorem d_Mdl_start_25 : decode b_Mdl_start 25 = .ok (.putfield 55, 3) := by decide +kernel
theorem d_Mdl_start_28 : decode b_Mdl_start 28 = .ok (.aload_n 0, 1) := by decide +kernel
theorem d_Mdl_start_29 : decode b_Mdl_start 29 = .ok (.iload_n 2, 1) := by decide +kernel
theorem d_Mdl_start_30 : decode b_Mdl_start 30 = .ok (.putfield 58, 3) := by decide +kernel
theorem d_Mdl_start_33 : decode b_Mdl_start 33 = .ok (.aload_n 0, 1) := by decide +kernel
theorem d_Mdl_start_34 : decode b_Mdl_start 34 = .ok (.iconst 0, 1) := by decide +kernel
theorem d_Mdl_start_35 : decode b_Mdl_start 35 = .ok (.putfield 221, 3) := by decide +kernel
theorem d_Mdl_start_38 : decode b_Mdl_start 38 = .ok (.iconst 1, 1) := by decide +kernel
theorem d_Mdl_start_39 : decode b_Mdl_start 39 = .ok (.ireturn, 1) := by decide +kernel
theorem d_Mdl_set_0 : decode b_Mdl_set 0 = .ok (.iload_n 1, 1) := by decide +kernel
theorem d_Mdl_set_1 : decode b_Mdl_set 1 = .ok (.tableswitch 132 0 6 #[43, 54, 72, 90, 101, 112, 124], 43) := by decide +kernel
theorem d_Mdl_set_44 : decode b_Mdl_set 44 = .ok (.aload_n 0, 1) := by decide +kernel
theorem d_Mdl_set_45 : decode b_Mdl_set 45 = .ok (.iload_n 2, 1) := by decide +kernel
theorem d_Mdl_set_46 : decode b_Mdl_set 46 = .ok (.ldc 35, 2) := by decide +kernel
theorem d_Mdl_set_48 : decode b_Mdl_set 48 = .ok (.iand, 1) := by decide +kernel
theorem d_Mdl_set_49 : decode b_Mdl_set 49 = .ok (.putfield 71, 3) := by decide +kernel
theorem d_Mdl_set_52 : decode b_Mdl_set 52 = .ok (.goto 83, 3) := by decide +kernel
theorem d_Mdl_set_55 : decode b_Mdl_set 55 = .ok (.aload_n 0, 1) := by decide +kernel
theorem d_Mdl_set_56 : decode b_Mdl_set 56 = .ok (.aload_n 0, 1) := by decide +kernel
theorem d_Mdl_set_57 : decode b_Mdl_set 57 = .ok (.iload_n 2, 1) := by decide +kernel
theorem d_Mdl_set_58 : decode b_Mdl_set 58 = .ok (.aload_n 0, 1) := by decide +kernel
theorem d_Mdl_set_59 : decode b_Mdl_set 59 = .ok (.bipush 16, 2) := by decide +kernel
theorem d_Mdl_set_61 : decode b_Mdl_set 61 = .ok (.invokevirtual 67, 3) := by decide +kernel
theorem d_Mdl_set_64 : decode b_Mdl_set 64 = .ok (.invokevirtual 75, 3) := by decide +kernel
theorem d_Mdl_set_67 : decode b_Mdl_set 67 = .ok (.putfield 83, 3) := by decide +kernel
theorem d_Mdl_set_70 : decode b_Mdl_set 70 = .ok (.goto 65, 3) := by decide +kernel
theorem d_Mdl_set_73 : decode b_Mdl_set 73 = .ok (.aload_n 0, 1) := by decide +kernel
theorem d_Mdl_set_74 : decode b_Mdl_set 74 = .ok (.aload_n 0, 1) := by decide +kernel
theorem d_Mdl_set_75 : decode b_Mdl_set 75 = .ok (.iload_n 2, 1) := by decide +kernel
theorem d_Mdl_set_76 : decode b_Mdl_set 76 = .ok (.aload_n 0, 1) := by decide +kernel
theorem d_Mdl_set_77 : decode b_Mdl_set 77 = .ok (.bipush 16, 2) := by decide +kernel
theorem d_Mdl_set_79 : decode b_Mdl_set 79 = .ok (.invokevirtual 67, 3) := by decide +kernel
theorem d_Mdl_set_82 : decode b_Mdl_set 82 = .ok (.invokevirtual 75, 3) := by decide +kernel
theorem d_Mdl_set_85 : decode b_Mdl_set 85 = .ok (.putfield 86, 3) := by decide +kernel
theorem d_Mdl_set_88 : decode b_Mdl_set 88 = .ok (.goto 47, 3) := by decide +kernel
theorem d_Mdl_set_91 : decode b_Mdl_set 91 = .ok (.aload_n 0, 1) := by decide +kernel
theorem d_Mdl_set_92 : decode b_Mdl_set 92 = .ok (.iload_n 2, 1) := by decide +kernel
theorem d_Mdl_set_93 : decode b_Mdl_set 93 = .ok (.ldc 35, 2) := by decide +kernel
theorem d_Mdl_set_95 : decode b_Mdl_set 95 = .ok (.iand, 1) := by decide +kernel
theorem d_Mdl_set_96 : decode b_Mdl_set 96 = .ok (.putfield 13, 3) := by decide +kernel
theorem d_Mdl_set_99 : decode b_Mdl_set 99 = .ok (.goto 36, 3) := by decide +kernel
theorem d_Mdl_set_102 : decode b_Mdl_set 102 = .ok (.aload_n 0, 1) := by decide +kernel
theorem d_Mdl_set_103 : decode b_Mdl_set 103 = .ok (.iload_n 2, 1) := by decide +kernel
theorem d_Mdl_set_104 : decode b_Mdl_set 104 = .ok (.ldc 35, 2) := by decide +kernel
theorem d_Mdl_set_106 : decode b_Mdl_set 106 = .ok (.iand, 1) := by decide +kernel
theorem d_Mdl_set_107 : decode b_Mdl_set 107 = .ok (.putfield 89, 3) := by decide +kernel
theorem d_Mdl_set_110 : decode b_Mdl_set 110 = .ok (.goto 25, 3) := by decide +kernel
theorem d_Mdl_set_113 : decode b_Mdl_set 113 = .ok (.aload_n 0, 1) := by decide +kernel
theorem d_Mdl_set_114 : decode b_Mdl_set 114 = .ok (.iload_n 2, 1) := by decide +kernel
theorem d_Mdl_set_115 : decode b_Mdl_set 115 = .ok (.sipush 255, 3) := by decide +kernel
theorem d_Mdl_set_118 : decode b_Mdl_set 118 = .ok (.iand, 1) := by decide +kernel
theorem d_Mdl_set_119 : decode b_Mdl_set 119 = .ok (.putfield 102, 3) := by decide +kernel
theorem d_Mdl_set_122 : decode b_Mdl_set 122 = .ok (.goto 13, 3) := by decide +kernel
theorem d_Mdl_set_125 : decode b_Mdl_set 125 = .ok (.aload_n 0, 1) := by decide +kernel
theorem d_Mdl_set_126 : decode b_Mdl_set 126 = .ok (.iload_n 2, 1) := by decide +kernel
theorem d_Mdl_set_127 : decode b_Mdl_set 127 = .ok (.invokevirtual 173, 3) := by decide +kernel
theorem d_Mdl_set_130 : decode b_Mdl_set 130 = .ok (.goto 5, 3) := by decide +kernel
theorem d_Mdl_set_133 : decode b_Mdl_set 133 = .ok (.iconst 0, 1) := by decide +kernel
theorem d_Mdl_set_134 : decode b_Mdl_set 134 = .ok (.ireturn, 1) := by decide +kernel
theorem d_Mdl_set_135 : decode b_Mdl_set 135 = .ok (.iconst 1, 1) := by decide +kernel
theorem d_Mdl_set_136 : decode b_Mdl_set 136 = .ok (.ireturn, 1) := by decide +kernel
theorem d_Mdl_register_0 : decode b_Mdl_register 0 = .ok (.iload_n 1, 1) := by decide +kernel
theorem d_Mdl_register_1 : decode b_Mdl_register 1 = .ok (.tableswitch 96 0 8 #[51, 56, 61, 66, 71, 76, 81, 86, 91], 51) := by decide +kernel
theorem d_Mdl_register_52 : decode b_Mdl_register 52 = .ok (.aload_n 0, 1) := by decide +kernel
theorem d_Mdl_register_53 : decode b_Mdl_register 53 = .ok (.getfield 71, 3) := by decide +kernel
theorem d_Mdl_register_56 : decode b_Mdl_register 56 = .ok (.ireturn, 1) := by decide +kernel
theorem d_Mdl_register_57 : decode b_Mdl_register 57 = .ok (.aload_n 0, 1) := by decide +kernel
theorem d_Mdl_register_58 : decode b_Mdl_register 58 = .ok (.getfield 83, 3) := by decide +kernel
theorem d_Mdl_register_61 : decode b_Mdl_register 61 = .ok (.ireturn, 1) := by decide +kernel
theorem d_Mdl_register_62 : decode b_Mdl_register 62 = .ok (.aload_n 0, 1) := by decide +kernel
theorem d_Mdl_register_63 : decode b_Mdl_register 63 = .ok (.getfield 86, 3) := by decide +kernel
theorem d_Mdl_register_66 : decode b_Mdl_register 66 = .ok (.ireturn, 1) := by decide +kernel
theorem d_Mdl_register_67 : decode b_Mdl_register 67 = .ok (.aload_n 0, 1) := by decide +kernel
theorem d_Mdl_register_68 : decode b_Mdl_register 68 = .ok (.getfield 13, 3) := by decide +kernel
theorem d_Mdl_register_71 : decode b_Mdl_register 71 = .ok (.ireturn, 1) := by decide +kernel
theorem d_Mdl_register_72 : decode b_Mdl_register 72 = .ok (.aload_n 0, 1) := by decide +kernel
theorem d_Mdl_register_73 : decode b_Mdl_register 73 = .ok (.getfield 89, 3) := by decide +kernel
theorem d_Mdl_register_76 : decode b_Mdl_register 76 = .ok (.ireturn, 1) := by decide +kernel
theorem d_Mdl_register_77 : decode b_Mdl_register 77 = .ok (.aload_n 0, 1) := by decide +kernel
theorem d_Mdl_register_78 : decode b_Mdl_register 78 = .ok (.getfield 102, 3) := by decide +kernel
theorem d_Mdl_register_81 : decode b_Mdl_register 81 = .ok (.ireturn, 1) := by decide +kernel
theorem d_Mdl_register_82 : decode b_Mdl_register 82 = .ok (.aload_n 0, 1) := by decide +kernel
theorem d_Mdl_register_83 : decode b_Mdl_register 83 = .ok (.getfield 17, 3) := by decide +kernel
theorem d_Mdl_register_86 : decode b_Mdl_register 86 = .ok (.ireturn, 1) := by decide +kernel
theorem d_Mdl_register_87 : decode b_Mdl_register 87 = .ok (.aload_n 0, 1) := by decide +kernel
theorem d_Mdl_register_88 : decode b_Mdl_register 88 = .ok (.getfield 55, 3) := by decide +kernel
theorem d_Mdl_register_91 : decode b_Mdl_register 91 = .ok (.ireturn, 1) := by decide +kernel
theorem d_Mdl_register_92 : decode b_Mdl_register 92 = .ok (.aload_n 0, 1) := by decide +kernel
theorem d_Mdl_register_93 : decode b_Mdl_register 93 = .ok (.getfield 58, 3) := by decide +kernel
theorem d_Mdl_register_96 : decode b_Mdl_register 96 = .ok (.ireturn, 1) := by decide +kernel
theorem d_Mdl_register_97 : decode b_Mdl_register 97 = .ok (.iconst (-1), 1) := by decide +kernel
theorem d_Mdl_register_98 : decode b_Mdl_register 98 = .ok (.ireturn, 1) := by decide +kernel
theorem d_Mdl_run_0 : decode b_Mdl_run 0 = .ok (.iload_n 1, 1) := by decide +kernel
theorem d_Mdl_run_1 : decode b_Mdl_run 1 = .ok (.ifCond .lt 9, 3) := by decide +kernel
theorem d_Mdl_run_4 : decode b_Mdl_run 4 = .ok (.iload_n 1, 1) := by decide +kernel
theorem d_Mdl_run_5 : decode b_Mdl_run 5 = .ok (.bipush 60, 2) := by decide +kernel
theorem d_Mdl_run_7 : decode b_Mdl_run 7 = .ok (.if_icmp .le 5, 3) := by decide +kernel
theorem d_Mdl_run_10 : decode b_Mdl_run 10 = .ok (.iconst (-1), 1) := by decide +kernel
theorem d_Mdl_run_11 : decode b_Mdl_run 11 = .ok (.ireturn, 1) := by decide +kernel
theorem d_Mdl_run_12 : decode b_Mdl_run 12 = .ok (.iconst 0, 1) := by decide +kernel
theorem d_Mdl_run_13 : decode b_Mdl_run 13 = .ok (.istore_n 2, 1) := by decide +kernel
theorem d_Mdl_run_14 : decode b_Mdl_run 14 = .ok (.iload_n 2, 1) := by decide +kernel
theorem d_Mdl_run_15 : decode b_Mdl_run 15 = .ok (.iload_n 1, 1) := by decide +kernel
theorem d_Mdl_run_16 : decode b_Mdl_run 16 = .ok (.if_icmp .ge 20, 3) := by decide +kernel
theorem d_Mdl_run_19 : decode b_Mdl_run 19 = .ok (.aload_n 0, 1) := by decide +kernel
theorem d_Mdl_run_20 : decode b_Mdl_run 20 = .ok (.getfield 221, 3) := by decide +kernel
theorem d_Mdl_run_23 : decode b_Mdl_run 23 = .ok (.ifCond .ne 13, 3) := by decide +kernel
theorem d_Mdl_run_26 : decode b_Mdl_run 26 = .ok (.aload_n 0, 1) := by decide +kernel
theorem d_Mdl_run_27 : decode b_Mdl_run 27 = .ok (.invokevirtual 224, 3) := by decide +kernel
theorem d_Mdl_run_30 : decode b_Mdl_run 30 = .ok (.iinc 2 1, 3) := by decide +kernel
theorem d_Mdl_run_33 : decode b_Mdl_run 33 = .ok (.goto (-19), 3) := by decide +kernel
theorem d_Mdl_run_36 : decode b_Mdl_run 36 = .ok (.iload_n 2, 1) := by decide +kernel
theorem d_Mdl_run_37 : decode b_Mdl_run 37 = .ok (.ireturn, 1) := by decide +kernel
theorem d_Mdl_stopped_0 : decode b_Mdl_stopped 0 = .ok (.aload_n 0, 1) := by decide +kernel
theorem d_Mdl_stopped_1 : decode b_Mdl_stopped 1 = .ok (.getfield 221, 3) := by decide +kernel
theorem d_Mdl_stopped_4 : decode b_Mdl_stopped 4 = .ok (.ireturn, 1) := by decide +kernel
theorem d_Mdl_interrupt_0 : decode b_Mdl_interrupt 0 = .ok (.aload_n 0, 1) := by decide +kernel
theorem d_Mdl_interrupt_1 : decode b_Mdl_interrupt 1 = .ok (.getfield 194, 3) := by decide +kernel
theorem d_Mdl_interrupt_4 : decode b_Mdl_interrupt 4 = .ok (.istore_n 1, 1) := by decide +kernel
theorem d_Mdl_interrupt_5 : decode b_Mdl_interrupt 5 = .ok (.aload_n 0, 1) := by decide +kernel
theorem d_Mdl_interrupt_6 : decode b_Mdl_interrupt 6 = .ok (.iconst 1, 1) := by decide +kernel
theorem d_Mdl_interrupt_7 : decode b_Mdl_interrupt 7 = .ok (.putfield 194, 3) := by decide +kernel
theorem d_Mdl_interrupt_10 : decode b_Mdl_interrupt 10 = .ok (.iload_n 1, 1) := by decide +kernel
