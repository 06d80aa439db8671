theorem d_Opd_init_0 : decode b_Opd_init 0 = .ok (.aload_n 0, 1) := by decide +kernel
theorem d_Opd_init_1 : decode b_Opd_init 1 = .ok (.invokespecial 1, 3) := by decide +kernel
theorem d_Opd_init_4 : decode b_Opd_init 4 = .ok (.aload_n 0, 1) := by decide +kernel
theorem d_Opd_init_5 : decode b_Opd_init 5 = .ok (.aload_n 1, 1) := by decide +kernel
theorem d_Opd_init_6 : decode b_Opd_init 6 = .ok (.putfield 7, 3) := by decide +kernel
theorem d_Opd_init_9 : decode b_Opd_init 9 = .ok (.aload_n 0, 1) := by decide +kernel
theorem d_Opd_init_10 : decode b_Opd_init 10 = .ok (.aload_n 2, 1) := by decide +kernel
theorem d_Opd_init_11 : decode b_Opd_init 11 = .ok (.putfield 13, 3) := by decide +kernel
theorem d_Opd_init_14 : decode b_Opd_init 14 = .ok (.return_, 1) := by decide +kernel
theorem d_Opd_isMode_0 : decode b_Opd_isMode 0 = .ok (.iload_n 0, 1) := by decide +kernel
theorem d_Opd_isMode_1 : decode b_Opd_isMode 1 = .ok (.bipush 18, 2) := by decide +kernel
theorem d_Opd_isMode_3 : decode b_Opd_isMode 3 = .ok (.if_icmp .eq 19, 3) := by decide +kernel
theorem d_Opd_isMode_6 : decode b_Opd_isMode 6 = .ok (.iload_n 0, 1) := by decide +kernel
theorem d_Opd_isMode_7 : decode b_Opd_isMode 7 = .ok (.iconst 1, 1) := by decide +kernel
theorem d_Opd_isMode_8 : decode b_Opd_isMode 8 = .ok (.iand, 1) := by decide +kernel
theorem d_Opd_isMode_9 : decode b_Opd_isMode 9 = .ok (.iconst 1, 1) := by decide +kernel
theorem d_Opd_isMode_10 : decode b_Opd_isMode 10 = .ok (.if_icmp .ne 16, 3) := by decide +kernel
theorem d_Opd_isMode_13 : decode b_Opd_isMode 13 = .ok (.iload_n 0, 1) := by decide +kernel
theorem d_Opd_isMode_14 : decode b_Opd_isMode 14 = .ok (.bipush 15, 2) := by decide +kernel
theorem d_Opd_isMode_16 : decode b_Opd_isMode 16 = .ok (.iand, 1) := by decide +kernel
theorem d_Opd_isMode_17 : decode b_Opd_isMode 17 = .ok (.bipush 11, 2) := by decide +kernel
theorem d_Opd_isMode_19 : decode b_Opd_isMode 19 = .ok (.if_icmp .eq 7, 3) := by decide +kernel
theorem d_Opd_isMode_22 : decode b_Opd_isMode 22 = .ok (.iconst 1, 1) := by decide +kernel
theorem d_Opd_isMode_23 : decode b_Opd_isMode 23 = .ok (.goto 4, 3) := by decide +kernel
theorem d_Opd_isMode_26 : decode b_Opd_isMode 26 = .ok (.iconst 0, 1) := by decide +kernel
theorem d_Opd_isMode_27 : decode b_Opd_isMode 27 = .ok (.ireturn, 1) := by decide +kernel
theorem d_Opd_nextByte_0 : decode b_Opd_nextByte 0 = .ok (.aload_n 0, 1) := by decide +kernel
theorem d_Opd_nextByte_1 : decode b_Opd_nextByte 1 = .ok (.getfield 7, 3) := by decide +kernel
theorem d_Opd_nextByte_4 : decode b_Opd_nextByte 4 = .ok (.aload_n 0, 1) := by decide +kernel
theorem d_Opd_nextByte_5 : decode b_Opd_nextByte 5 = .ok (.getfield 13, 3) := by decide +kernel
theorem d_Opd_nextByte_8 : decode b_Opd_nextByte 8 = .ok (.getfield 17, 3) := by decide +kernel
theorem d_Opd_nextByte_11 : decode b_Opd_nextByte 11 = .ok (.aload_n 0, 1) := by decide +kernel
theorem d_Opd_nextByte_12 : decode b_Opd_nextByte 12 = .ok (.getfield 13, 3) := by decide +kernel
theorem d_Opd_nextByte_15 : decode b_Opd_nextByte 15 = .ok (.getfield 23, 3) := by decide +kernel
theorem d_Opd_nextByte_18 : decode b_Opd_nextByte 18 = .ok (.invokevirtual 26, 3) := by decide +kernel
theorem d_Opd_nextByte_21 : decode b_Opd_nextByte 21 = .ok (.istore_n 1, 1) := by decide +kernel
theorem d_Opd_nextByte_22 : decode b_Opd_nextByte 22 = .ok (.aload_n 0, 1) := by decide +kernel
theorem d_Opd_nextByte_23 : decode b_Opd_nextByte 23 = .ok (.getfield 13, 3) := by decide +kernel
theorem d_Opd_nextByte_26 : decode b_Opd_nextByte 26 = .ok (.aload_n 0, 1) := by decide +kernel
theorem d_Opd_nextByte_27 : decode b_Opd_nextByte 27 = .ok (.getfield 13, 3) := by decide +kernel
theorem d_Opd_nextByte_30 : decode b_Opd_nextByte 30 = .ok (.getfield 23, 3) := by decide +kernel
theorem d_Opd_nextByte_33 : decode b_Opd_nextByte 33 = .ok (.iconst 1, 1) := by decide +kernel
theorem d_Opd_nextByte_34 : decode b_Opd_nextByte 34 = .ok (.iadd, 1) := by decide +kernel
theorem d_Opd_nextByte_35 : decode b_Opd_nextByte 35 = .ok (.ldc 32, 2) := by decide +kernel
theorem d_Opd_nextByte_37 : decode b_Opd_nextByte 37 = .ok (.iand, 1) := by decide +kernel
theorem d_Opd_nextByte_38 : decode b_Opd_nextByte 38 = .ok (.putfield 23, 3) := by decide +kernel
theorem d_Opd_nextByte_41 : decode b_Opd_nextByte 41 = .ok (.iload_n 1, 1) := by decide +kernel
theorem d_Opd_nextByte_42 : decode b_Opd_nextByte 42 = .ok (.ireturn, 1) := by decide +kernel
theorem d_Opd_nextWord_0 : decode b_Opd_nextWord 0 = .ok (.aload_n 0, 1) := by decide +kernel
theorem d_Opd_nextWord_1 : decode b_Opd_nextWord 1 = .ok (.invokevirtual 33, 3) := by decide +kernel
theorem d_Opd_nextWord_4 : decode b_Opd_nextWord 4 = .ok (.istore_n 1, 1) := by decide +kernel
theorem d_Opd_nextWord_5 : decode b_Opd_nextWord 5 = .ok (.iload_n 1, 1) := by decide +kernel
theorem d_Opd_nextWord_6 : decode b_Opd_nextWord 6 = .ok (.aload_n 0, 1) := by decide +kernel
theorem d_Opd_nextWord_7 : decode b_Opd_nextWord 7 = .ok (.invokevirtual 33, 3) := by decide +kernel
theorem d_Opd_nextWord_10 : decode b_Opd_nextWord 10 = .ok (.bipush 8, 2) := by decide +kernel
theorem d_Opd_nextWord_12 : decode b_Opd_nextWord 12 = .ok (.ishl, 1) := by decide +kernel
theorem d_Opd_nextWord_13 : decode b_Opd_nextWord 13 = .ok (.ior, 1) := by decide +kernel
theorem d_Opd_nextWord_14 : decode b_Opd_nextWord 14 = .ok (.ireturn, 1) := by decide +kernel
theorem d_Opd_nextLong_0 : decode b_Opd_nextLong 0 = .ok (.aload_n 0, 1) := by decide +kernel
theorem d_Opd_nextLong_1 : decode b_Opd_nextLong 1 = .ok (.invokevirtual 33, 3) := by decide +kernel
theorem d_Opd_nextLong_4 : decode b_Opd_nextLong 4 = .ok (.istore_n 1, 1) := by decide +kernel
theorem d_Opd_nextLong_5 : decode b_Opd_nextLong 5 = .ok (.aload_n 0, 1) := by decide +kernel
theorem d_Opd_nextLong_6 : decode b_Opd_nextLong 6 = .ok (.invokevirtual 33, 3) := by decide +kernel
theorem d_Opd_nextLong_9 : decode b_Opd_nextLong 9 = .ok (.istore_n 2, 1) := by decide +kernel
theorem d_Opd_nextLong_10 : decode b_Opd_nextLong 10 = .ok (.iload_n 1, 1) := by decide +kernel
theorem d_Opd_nextLong_11 : decode b_Opd_nextLong 11 = .ok (.iload_n 2, 1) := by decide +kernel
theorem d_Opd_nextLong_12 : decode b_Opd_nextLong 12 = .ok (.bipush 8, 2) := by decide +kernel
theorem d_Opd_nextLong_14 : decode b_Opd_nextLong 14 = .ok (.ishl, 1) := by decide +kernel
theorem d_Opd_nextLong_15 : decode b_Opd_nextLong 15 = .ok (.ior, 1) := by decide +kernel
theorem d_Opd_nextLong_16 : decode b_Opd_nextLong 16 = .ok (.aload_n 0, 1) := by decide +kernel
theorem d_Opd_nextLong_17 : decode b_Opd_nextLong 17 = .ok (.invokevirtual 33, 3) := by decide +kernel
theorem d_Opd_nextLong_20 : decode b_Opd_nextLong 20 = .ok (.bipush 16, 2) := by decide +kernel
theorem d_Opd_nextLong_22 : decode b_Opd_nextLong 22 = .ok (.ishl, 1) := by decide +kernel
theorem d_Opd_nextLong_23 : decode b_Opd_nextLong 23 = .ok (.ior, 1) := by decide +kernel
theorem d_Opd_nextLong_24 : decode b_Opd_nextLong 24 = .ok (.ireturn, 1) := by decide +kernel
theorem d_Opd_nextValue_0 : decode b_Opd_nextValue 0 = .ok (.iload_n 1, 1) := by decide +kernel
theorem d_Opd_nextValue_1 : decode b_Opd_nextValue 1 = .ok (.ifCond .eq 10, 3) := by decide +kernel
theorem d_Opd_nextValue_4 : decode b_Opd_nextValue 4 = .ok (.aload_n 0, 1) := by decide +kernel
theorem d_Opd_nextValue_5 : decode b_Opd_nextValue 5 = .ok (.invokevirtual 37, 3) := by decide +kernel
theorem d_Opd_nextValue_8 : decode b_Opd_nextValue 8 = .ok (.goto 7, 3) := by decide +kernel
theorem d_Opd_nextValue_11 : decode b_Opd_nextValue 11 = .ok (.aload_n 0, 1) := by decide +kernel
theorem d_Opd_nextValue_12 : decode b_Opd_nextValue 12 = .ok (.invokevirtual 33, 3) := by decide +kernel
theorem d_Opd_nextValue_15 : decode b_Opd_nextValue 15 = .ok (.ireturn, 1) := by decide +kernel
theorem d_Opd_place_0 : decode b_Opd_place 0 = .ok (.iload_n 1, 1) := by decide +kernel
theorem d_Opd_place_1 : decode b_Opd_place 1 = .ok (.tableswitch 379 1 31 #[254, 379, 347, 379, 139, 379, 306, 379, 379, 379, 379, 379, 161, 379, 209, 379, 280, 234, 354, 379, 147, 379, 321, 379, 191, 379, 379, 379, 173, 379, 216], 139) := by decide +kernel
theorem d_Opd_place_140 : decode b_Opd_place 140 = .ok (.aload_n 0, 1) := by decide +kernel
theorem d_Opd_place_141 : decode b_Opd_place 141 = .ok (.iconst 0, 1) := by decide +kernel
theorem d_Opd_place_142 : decode b_Opd_place 142 = .ok (.invokevirtual 40, 3) := by decide +kernel
theorem d_Opd_place_145 : decode b_Opd_place 145 = .ok (.goto 236, 3) := by decide +kernel
theorem d_Opd_place_148 : decode b_Opd_place 148 = .ok (.aload_n 0, 1) := by decide +kernel
theorem d_Opd_place_149 : decode b_Opd_place 149 = .ok (.aload_n 0, 1) := by decide +kernel
theorem d_Opd_place_150 : decode b_Opd_place 150 = .ok (.getfield 13, 3) := by decide +kernel
theorem d_Opd_place_153 : decode b_Opd_place 153 = .ok (.getfield 44, 3) := by decide +kernel
theorem d_Opd_place_156 : decode b_Opd_place 156 = .ok (.invokevirtual 40, 3) := by decide +kernel
theorem d_Opd_place_159 : decode b_Opd_place 159 = .ok (.goto 222, 3) := by decide +kernel
theorem d_Opd_place_162 : decode b_Opd_place 162 = .ok (.aload_n 0, 1) := by decide +kernel
theorem d_Opd_place_163 : decode b_Opd_place 163 = .ok (.aload_n 0, 1) := by decide +kernel
theorem d_Opd_place_164 : decode b_Opd_place 164 = .ok (.invokevirtual 37, 3) := by decide +kernel
theorem d_Opd_place_167 : decode b_Opd_place 167 = .ok (.iconst 0, 1) := by decide +kernel
theorem d_Opd_place_168 : decode b_Opd_place 168 = .ok (.invokevirtual 47, 3) := by decide +kernel
theorem d_Opd_place_171 : decode b_Opd_place 171 = .ok (.goto 210, 3) := by decide +kernel
theorem d_Opd_place_174 : decode b_Opd_place 174 = .ok (.aload_n 0, 1) := by decide +kernel
theorem d_Opd_place_175 : decode b_Opd_place 175 = .ok (.aload_n 0, 1) := by decide +kernel
theorem d_Opd_place_176 : decode b_Opd_place 176 = .ok (.invokevirtual 37, 3) := by decide +kernel
theorem d_Opd_place_179 : decode b_Opd_place 179 = .ok (.aload_n 0, 1) := by decide +kernel
theorem d_Opd_place_180 : decode b_Opd_place 180 = .ok (.getfield 13, 3) := by decide +kernel
theorem d_Opd_place_183 : decode b_Opd_place 183 = .ok (.getfield 44, 3) := by decide +kernel
theorem d_Opd_place_186 : decode b_Opd_place 186 = .ok (.invokevirtual 47, 3) := by decide +kernel
theorem d_Opd_place_189 : decode b_Opd_place 189 = .ok (.goto 192, 3) := by decide +kernel
theorem d_Opd_place_192 : decode b_Opd_place 192 = .ok (.aload_n 0, 1) := by decide +kernel
theorem d_Opd_place_193 : decode b_Opd_place 193 = .ok (.aload_n 0, 1) := by decide +kernel
theorem d_Opd_place_194 : decode b_Opd_place 194 = .ok (.invokevirtual 37, 3) := by decide +kernel
theorem d_Opd_place_197 : decode b_Opd_place 197 = .ok (.aload_n 0, 1) := by decide +kernel
theorem d_Opd_place_198 : decode b_Opd_place 198 = .ok (.getfield 13, 3) := by decide +kernel
theorem d_Opd_place_201 : decode b_Opd_place 201 = .ok (.getfield 50, 3) := by decide +kernel
theorem d_Opd_place_204 : decode b_Opd_place 204 = .ok (.invokevirtual 47, 3) := by decide +kernel
theorem d_Opd_place_207 : decode b_Opd_place 207 = .ok (.goto 174, 3) := by decide +kernel
theorem d_Opd_place_210 : decode b_Opd_place 210 = .ok (.aload_n 0, 1) := by decide +kernel
theorem d_Opd_place_211 : decode b_Opd_place 211 = .ok (.invokevirtual 53, 3) := by decide +kernel
theorem d_Opd_place_214 : decode b_Opd_place 214 = .ok (.goto 167, 3) := by decide +kernel
theorem d_Opd_place_217 : decode b_Opd_place 217 = .ok (.aload_n 0, 1) := by decide +kernel
theorem d_Opd_place_218 : decode b_Opd_place 218 = .ok (.invokevirtual 53, 3) := by decide +kernel
theorem d_Opd_place_221 : decode b_Opd_place 221 = .ok (.aload_n 0, 1) := by decide +kernel
theorem d_Opd_place_222 : decode b_Opd_place 222 = .ok (.getfield 13, 3) := by decide +kernel
theorem d_Opd_place_225 : decode b_Opd_place 225 = .ok (.getfield 44, 3) := by decide +kernel
theorem d_Opd_place_228 : decode b_Opd_place 228 = .ok (.iadd, 1) := by decide +kernel
theorem d_Opd_place_229 : decode b_Opd_place 229 = .ok (.invokestatic 56, 3) := by decide +kernel
theorem d_Opd_place_232 : decode b_Opd_place 232 = .ok (.goto 149, 3) := by decide +kernel
theorem d_Opd_place_235 : decode b_Opd_place 235 = .ok (.aload_n 0, 1) := by decide +kernel
theorem d_Opd_place_236 : decode b_Opd_place 236 = .ok (.aload_n 0, 1) := by decide +kernel
theorem d_Opd_place_237 : decode b_Opd_place 237 = .ok (.getfield 7, 3) := by decide +kernel
theorem d_Opd_place_240 : decode b_Opd_place 240 = .ok (.aload_n 0, 1) := by decide +kernel
theorem d_Opd_place_241 : decode b_Opd_place 241 = .ok (.iconst 0, 1) := by decide +kernel
theorem d_Opd_place_242 : decode b_Opd_place 242 = .ok (.invokevirtual 40, 3) := by decide +kernel
theorem d_Opd_place_245 : decode b_Opd_place 245 = .ok (.invokevirtual 59, 3) := by decide +kernel
theorem d_Opd_place_248 : decode b_Opd_place 248 = .ok (.iconst 0, 1) := by decide +kernel
theorem d_Opd_place_249 : decode b_Opd_place 249 = .ok (.invokevirtual 47, 3) := by decide +kernel
theorem d_Opd_place_252 : decode b_Opd_place 252 = .ok (.goto 129, 3) := by decide +kernel
theorem d_Opd_place_255 : decode b_Opd_place 255 = .ok (.aload_n 0, 1) := by decide +kernel
theorem d_Opd_place_256 : decode b_Opd_place 256 = .ok (.aload_n 0, 1) := by decide +kernel
theorem d_Opd_place_257 : decode b_Opd_place 257 = .ok (.getfield 7, 3) := by decide +kernel
theorem d_Opd_place_260 : decode b_Opd_place 260 = .ok (.aload_n 0, 1) := by decide +kernel
theorem d_Opd_place_261 : decode b_Opd_place 261 = .ok (.aload_n 0, 1) := by decide +kernel
theorem d_Opd_place_262 : decode b_Opd_place 262 = .ok (.getfield 13, 3) := by decide +kernel
theorem d_Opd_place_265 : decode b_Opd_place 265 = .ok (.getfield 44, 3) := by decide +kernel
theorem d_Opd_place_268 : decode b_Opd_place 268 = .ok (.invokevirtual 40, 3) := by decide +kernel
theorem d_Opd_place_271 : decode b_Opd_place 271 = .ok (.invokevirtual 59, 3) := by decide +kernel
theorem d_Opd_place_274 : decode b_Opd_place 274 = .ok (.iconst 0, 1) := by decide +kernel
theorem d_Opd_place_275 : decode b_Opd_place 275 = .ok (.invokevirtual 47, 3) := by decide +kernel
theorem d_Opd_place_278 : decode b_Opd_place 278 = .ok (.goto 103, 3) := by decide +kernel
theorem d_Opd_place_281 : decode b_Opd_place 281 = .ok (.aload_n 0, 1) := by decide +kernel
theorem d_Opd_place_282 : decode b_Opd_place 282 = .ok (.aload_n 0, 1) := by decide +kernel
theorem d_Opd_place_283 : decode b_Opd_place 283 = .ok (.getfield 7, 3) := by decide +kernel
theorem d_Opd_place_286 : decode b_Opd_place 286 = .ok (.aload_n 0, 1) := by decide +kernel
theorem d_Opd_place_287 : decode b_Opd_place 287 = .ok (.iconst 0, 1) := by decide +kernel
theorem d_Opd_place_288 : decode b_Opd_place 288 = .ok (.invokevirtual 40, 3) := by decide +kernel
theorem d_Opd_place_291 : decode b_Opd_place 291 = .ok (.invokevirtual 59, 3) := by decide +kernel
theorem d_Opd_place_294 : decode b_Opd_place 294 = .ok (.aload_n 0, 1) := by decide +kernel
theorem d_Opd_place_295 : decode b_Opd_place 295 = .ok (.getfield 13, 3) := by decide +kernel
theorem d_Opd_place_298 : decode b_Opd_place 298 = .ok (.getfield 50, 3) := by decide +kernel
theorem d_Opd_place_301 : decode b_Opd_place 301 = .ok (.invokevirtual 47, 3) := by decide +kernel
theorem d_Opd_place_304 : decode b_Opd_place 304 = .ok (.goto 77, 3) := by decide +kernel
theorem d_Opd_place_307 : decode b_Opd_place 307 = .ok (.aload_n 0, 1) := by decide +kernel
theorem d_Opd_place_308 : decode b_Opd_place 308 = .ok (.getfield 7, 3) := by decide +kernel
theorem d_Opd_place_311 : decode b_Opd_place 311 = .ok (.aload_n 0, 1) := by decide +kernel
theorem d_Opd_place_312 : decode b_Opd_place 312 = .ok (.iconst 0, 1) := by decide +kernel
theorem d_Opd_place_313 : decode b_Opd_place 313 = .ok (.invokevirtual 40, 3) := by decide +kernel
theorem d_Opd_place_316 : decode b_Opd_place 316 = .ok (.invokevirtual 62, 3) := by decide +kernel
theorem d_Opd_place_319 : decode b_Opd_place 319 = .ok (.goto 62, 3) := by decide +kernel
theorem d_Opd_place_322 : decode b_Opd_place 322 = .ok (.aload_n 0, 1) := by decide +kernel
theorem d_Opd_place_323 : decode b_Opd_place 323 = .ok (.getfield 7, 3) := by decide +kernel
theorem d_Opd_place_326 : decode b_Opd_place 326 = .ok (.aload_n 0, 1) := by decide +kernel
theorem d_Opd_place_327 : decode b_Opd_place 327 = .ok (.iconst 0, 1) := by decide +kernel
theorem d_Opd_place_328 : decode b_Opd_place 328 = .ok (.invokevirtual 40, 3) := by decide +kernel
theorem d_Opd_place_331 : decode b_Opd_place 331 = .ok (.invokevirtual 62, 3) := by decide +kernel
theorem d_Opd_place_334 : decode b_Opd_place 334 = .ok (.aload_n 0, 1) := by decide +kernel
theorem d_Opd_place_335 : decode b_Opd_place 335 = .ok (.getfield 13, 3) := by decide +kernel
theorem d_Opd_place_338 : decode b_Opd_place 338 = .ok (.getfield 50, 3) := by decide +kernel
theorem d_Opd_place_341 : decode b_Opd_place 341 = .ok (.iadd, 1) := by decide +kernel
theorem d_Opd_place_342 : decode b_Opd_place 342 = .ok (.invokestatic 56, 3) := by decide +kernel
theorem d_Opd_place_345 : decode b_Opd_place 345 = .ok (.goto 36, 3) := by decide +kernel
theorem d_Opd_place_348 : decode b_Opd_place 348 = .ok (.aload_n 0, 1) := by decide +kernel
theorem d_Opd_place_349 : decode b_Opd_place 349 = .ok (.invokevirtual 65, 3) := by decide +kernel
theorem d_Opd_place_352 : decode b_Opd_place 352 = .ok (.goto 29, 3) := by decide +kernel
theorem d_Opd_place_355 : decode b_Opd_place 355 = .ok (.aload_n 0, 1) := by decide +kernel
theorem d_Opd_place_356 : decode b_Opd_place 356 = .ok (.aload_n 0, 1) := by decide +kernel
theorem d_Opd_place_357 : decode b_Opd_place 357 = .ok (.getfield 7, 3) := by decide +kernel
theorem d_Opd_place_360 : decode b_Opd_place 360 = .ok (.aload_n 0, 1) := by decide +kernel
theorem d_Opd_place_361 : decode b_Opd_place 361 = .ok (.invokevirtual 65, 3) := by decide +kernel
theorem d_Opd_place_364 : decode b_Opd_place 364 = .ok (.invokevirtual 59, 3) := by decide +kernel
theorem d_Opd_place_367 : decode b_Opd_place 367 = .ok (.aload_n 0, 1) := by decide +kernel
theorem d_Opd_place_368 : decode b_Opd_place 368 = .ok (.getfield 13, 3) := by decide +kernel
theorem d_Opd_place_371 : decode b_Opd_place 371 = .ok (.getfield 50, 3) := by decide +kernel
theorem d_Opd_place_374 : decode b_Opd_place 374 = .ok (.invokevirtual 47, 3) := by decide +kernel
theorem d_Opd_place_377 : decode b_Opd_place 377 = .ok (.goto 4, 3) := by decide +kernel
theorem d_Opd_place_380 : decode b_Opd_place 380 = .ok (.iconst 0, 1) := by decide +kernel
theorem d_Opd_place_381 : decode b_Opd_place 381 = .ok (.ireturn, 1) := by decide +kernel
theorem d_Opd_direct_0 : decode b_Opd_direct 0 = .ok (.aload_n 0, 1) := by decide +kernel
theorem d_Opd_direct_1 : decode b_Opd_direct 1 = .ok (.getfield 13, 3) := by decide +kernel
theorem d_Opd_direct_4 : decode b_Opd_direct 4 = .ok (.getfield 68, 3) := by decide +kernel
theorem d_Opd_direct_7 : decode b_Opd_direct 7 = .ok (.aload_n 0, 1) := by decide +kernel
theorem d_Opd_direct_8 : decode b_Opd_direct 8 = .ok (.invokevirtual 33, 3) := by decide +kernel
theorem d_Opd_direct_11 : decode b_Opd_direct 11 = .ok (.iadd, 1) := by decide +kernel
theorem d_Opd_direct_12 : decode b_Opd_direct 12 = .ok (.iload_n 1, 1) := by decide +kernel
theorem d_Opd_direct_13 : decode b_Opd_direct 13 = .ok (.iadd, 1) := by decide +kernel
theorem d_Opd_direct_14 : decode b_Opd_direct 14 = .ok (.invokestatic 71, 3) := by decide +kernel
theorem d_Opd_direct_17 : decode b_Opd_direct 17 = .ok (.ireturn, 1) := by decide +kernel
theorem d_Opd_onStack_0 : decode b_Opd_onStack 0 = .ok (.aload_n 0, 1) := by decide +kernel
theorem d_Opd_onStack_1 : decode b_Opd_onStack 1 = .ok (.getfield 13, 3) := by decide +kernel
theorem d_Opd_onStack_4 : decode b_Opd_onStack 4 = .ok (.getfield 74, 3) := by decide +kernel
theorem d_Opd_onStack_7 : decode b_Opd_onStack 7 = .ok (.aload_n 0, 1) := by decide +kernel
theorem d_Opd_onStack_8 : decode b_Opd_onStack 8 = .ok (.invokevirtual 33, 3) := by decide +kernel
theorem d_Opd_onStack_11 : decode b_Opd_onStack 11 = .ok (.iadd, 1) := by decide +kernel
theorem d_Opd_onStack_12 : decode b_Opd_onStack 12 = .ok (.invokestatic 71, 3) := by decide +kernel
theorem d_Opd_onStack_15 : decode b_Opd_onStack 15 = .ok (.ireturn, 1) := by decide +kernel
theorem d_Opd_inDataBank_0 : decode b_Opd_inDataBank 0 = .ok (.aload_n 0, 1) := by decide +kernel
theorem d_Opd_inDataBank_1 : decode b_Opd_inDataBank 1 = .ok (.getfield 13, 3) := by decide +kernel
theorem d_Opd_inDataBank_4 : decode b_Opd_inDataBank 4 = .ok (.getfield 77, 3) := by decide +kernel
theorem d_Opd_inDataBank_7 : decode b_Opd_inDataBank 7 = .ok (.bipush 16, 2) := by decide +kernel
theorem d_Opd_inDataBank_9 : decode b_Opd_inDataBank 9 = .ok (.ishl, 1) := by decide +kernel
theorem d_Opd_inDataBank_10 : decode b_Opd_inDataBank 10 = .ok (.iload_n 1, 1) := by decide +kernel
theorem d_Opd_inDataBank_11 : decode b_Opd_inDataBank 11 = .ok (.iadd, 1) := by decide +kernel
theorem d_Opd_inDataBank_12 : decode b_Opd_inDataBank 12 = .ok (.iload_n 2, 1) := by decide +kernel
theorem d_Opd_inDataBank_13 : decode b_Opd_inDataBank 13 = .ok (.iadd, 1) := by decide +kernel
theorem d_Opd_inDataBank_14 : decode b_Opd_inDataBank 14 = .ok (.invokestatic 56, 3) := by decide +kernel
theorem d_Opd_inDataBank_17 : decode b_Opd_inDataBank 17 = .ok (.ireturn, 1) := by decide +kernel
