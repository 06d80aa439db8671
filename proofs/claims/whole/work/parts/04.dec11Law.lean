theorem d_Law_law_18 : decode code 18 = .ok (.iload_n 3, 1) := by decide +kernel
theorem d_Law_law_19 : decode code 19 = .ok (.aload_n 0, 1) := by decide +kernel
theorem d_Law_law_20 : decode code 20 = .ok (.arraylength, 1) := by decide +kernel
theorem d_Law_law_21 : decode code 21 = .ok (.iconst 4, 1) := by decide +kernel
theorem d_Law_law_22 : decode code 22 = .ok (.isub, 1) := by decide +kernel
theorem d_Law_law_23 : decode code 23 = .ok (.if_icmp .gt 369, 3) := by decide +kernel
theorem d_Law_law_26 : decode code 26 = .ok (.aload_n 0, 1) := by decide +kernel
theorem d_Law_law_27 : decode code 27 = .ok (.iload_n 3, 1) := by decide +kernel
theorem d_Law_law_28 : decode code 28 = .ok (.iaload, 1) := by decide +kernel
theorem d_Law_law_29 : decode code 29 = .ok (.bipush 15, 2) := by decide +kernel
theorem d_Law_law_31 : decode code 31 = .ok (.iand, 1) := by decide +kernel
theorem d_Law_law_32 : decode code 32 = .ok (.tableswitch 354 0 11 #[64, 107, 130, 163, 196, 219, 242, 255, 268, 305, 318, 341], 64) := by decide +kernel
theorem d_Law_law_96 : decode code 96 = .ok (.aload_n 1, 1) := by decide +kernel
theorem d_Law_law_97 : decode code 97 = .ok (.aload_n 0, 1) := by decide +kernel
theorem d_Law_law_98 : decode code 98 = .ok (.iload_n 3, 1) := by decide +kernel
theorem d_Law_law_99 : decode code 99 = .ok (.iconst 1, 1) := by decide +kernel
theorem d_Law_law_100 : decode code 100 = .ok (.iadd, 1) := by decide +kernel
theorem d_Law_law_101 : decode code 101 = .ok (.iaload, 1) := by decide +kernel
theorem d_Law_law_102 : decode code 102 = .ok (.aload_n 0, 1) := by decide +kernel
theorem d_Law_law_103 : decode code 103 = .ok (.iload_n 3, 1) := by decide +kernel
theorem d_Law_law_104 : decode code 104 = .ok (.iconst 2, 1) := by decide +kernel
theorem d_Law_law_105 : decode code 105 = .ok (.iadd, 1) := by decide +kernel
theorem d_Law_law_106 : decode code 106 = .ok (.iaload, 1) := by decide +kernel
theorem d_Law_law_107 : decode code 107 = .ok (.aload_n 0, 1) := by decide +kernel
theorem d_Law_law_108 : decode code 108 = .ok (.iload_n 3, 1) := by decide +kernel
theorem d_Law_law_109 : decode code 109 = .ok (.iconst 3, 1) := by decide +kernel
theorem d_Law_law_110 : decode code 110 = .ok (.iadd, 1) := by decide +kernel
theorem d_Law_law_111 : decode code 111 = .ok (.iaload, 1) := by decide +kernel
theorem d_Law_law_112 : decode code 112 = .ok (.invokevirtual 13, 3) := by decide +kernel
theorem d_Law_law_115 : decode code 115 = .ok (.aload_n 2, 1) := by decide +kernel
theorem d_Law_law_116 : decode code 116 = .ok (.aload_n 0, 1) := by decide +kernel
theorem d_Law_law_117 : decode code 117 = .ok (.iload_n 3, 1) := by decide +kernel
theorem d_Law_law_118 : decode code 118 = .ok (.iconst 1, 1) := by decide +kernel
theorem d_Law_law_119 : decode code 119 = .ok (.iadd, 1) := by decide +kernel
theorem d_Law_law_120 : decode code 120 = .ok (.iaload, 1) := by decide +kernel
theorem d_Law_law_121 : decode code 121 = .ok (.aload_n 0, 1) := by decide +kernel
theorem d_Law_law_122 : decode code 122 = .ok (.iload_n 3, 1) := by decide +kernel
theorem d_Law_law_123 : decode code 123 = .ok (.iconst 2, 1) := by decide +kernel
theorem d_Law_law_124 : decode code 124 = .ok (.iadd, 1) := by decide +kernel
theorem d_Law_law_125 : decode code 125 = .ok (.iaload, 1) := by decide +kernel
theorem d_Law_law_126 : decode code 126 = .ok (.aload_n 0, 1) := by decide +kernel
theorem d_Law_law_127 : decode code 127 = .ok (.iload_n 3, 1) := by decide +kernel
theorem d_Law_law_128 : decode code 128 = .ok (.iconst 3, 1) := by decide +kernel
theorem d_Law_law_129 : decode code 129 = .ok (.iadd, 1) := by decide +kernel
theorem d_Law_law_130 : decode code 130 = .ok (.iaload, 1) := by decide +kernel
theorem d_Law_law_131 : decode code 131 = .ok (.invokevirtual 17, 3) := by decide +kernel
theorem d_Law_law_134 : decode code 134 = .ok (.if_icmp .eq 252, 3) := by decide +kernel
theorem d_Law_law_139 : decode code 139 = .ok (.aload_n 1, 1) := by decide +kernel
theorem d_Law_law_140 : decode code 140 = .ok (.aload_n 0, 1) := by decide +kernel
theorem d_Law_law_141 : decode code 141 = .ok (.iload_n 3, 1) := by decide +kernel
theorem d_Law_law_142 : decode code 142 = .ok (.iconst 1, 1) := by decide +kernel
theorem d_Law_law_143 : decode code 143 = .ok (.iadd, 1) := by decide +kernel
theorem d_Law_law_144 : decode code 144 = .ok (.iaload, 1) := by decide +kernel
theorem d_Law_law_145 : decode code 145 = .ok (.invokevirtual 18, 3) := by decide +kernel
theorem d_Law_law_148 : decode code 148 = .ok (.aload_n 2, 1) := by decide +kernel
theorem d_Law_law_149 : decode code 149 = .ok (.aload_n 0, 1) := by decide +kernel
theorem d_Law_law_150 : decode code 150 = .ok (.iload_n 3, 1) := by decide +kernel
theorem d_Law_law_151 : decode code 151 = .ok (.iconst 1, 1) := by decide +kernel
theorem d_Law_law_152 : decode code 152 = .ok (.iadd, 1) := by decide +kernel
theorem d_Law_law_153 : decode code 153 = .ok (.iaload, 1) := by decide +kernel
theorem d_Law_law_154 : decode code 154 = .ok (.invokevirtual 22, 3) := by decide +kernel
theorem d_Law_law_157 : decode code 157 = .ok (.if_icmp .eq 229, 3) := by decide +kernel
theorem d_Law_law_162 : decode code 162 = .ok (.aload_n 1, 1) := by decide +kernel
theorem d_Law_law_163 : decode code 163 = .ok (.aload_n 0, 1) := by decide +kernel
theorem d_Law_law_164 : decode code 164 = .ok (.iload_n 3, 1) := by decide +kernel
theorem d_Law_law_165 : decode code 165 = .ok (.iconst 1, 1) := by decide +kernel
theorem d_Law_law_166 : decode code 166 = .ok (.iadd, 1) := by decide +kernel
theorem d_Law_law_167 : decode code 167 = .ok (.iaload, 1) := by decide +kernel
theorem d_Law_law_168 : decode code 168 = .ok (.aload_n 0, 1) := by decide +kernel
theorem d_Law_law_169 : decode code 169 = .ok (.iload_n 3, 1) := by decide +kernel
theorem d_Law_law_170 : decode code 170 = .ok (.iconst 2, 1) := by decide +kernel
theorem d_Law_law_171 : decode code 171 = .ok (.iadd, 1) := by decide +kernel
theorem d_Law_law_172 : decode code 172 = .ok (.iaload, 1) := by decide +kernel
theorem d_Law_law_173 : decode code 173 = .ok (.invokevirtual 23, 3) := by decide +kernel
theorem d_Law_law_176 : decode code 176 = .ok (.aload_n 2, 1) := by decide +kernel
theorem d_Law_law_177 : decode code 177 = .ok (.aload_n 0, 1) := by decide +kernel
theorem d_Law_law_178 : decode code 178 = .ok (.iload_n 3, 1) := by decide +kernel
theorem d_Law_law_179 : decode code 179 = .ok (.iconst 1, 1) := by decide +kernel
theorem d_Law_law_180 : decode code 180 = .ok (.iadd, 1) := by decide +kernel
theorem d_Law_law_181 : decode code 181 = .ok (.iaload, 1) := by decide +kernel
theorem d_Law_law_182 : decode code 182 = .ok (.aload_n 0, 1) := by decide +kernel
theorem d_Law_law_183 : decode code 183 = .ok (.iload_n 3, 1) := by decide +kernel
theorem d_Law_law_184 : decode code 184 = .ok (.iconst 2, 1) := by decide +kernel
theorem d_Law_law_185 : decode code 185 = .ok (.iadd, 1) := by decide +kernel
theorem d_Law_law_186 : decode code 186 = .ok (.iaload, 1) := by decide +kernel
theorem d_Law_law_187 : decode code 187 = .ok (.invokevirtual 27, 3) := by decide +kernel
theorem d_Law_law_190 : decode code 190 = .ok (.if_icmp .eq 196, 3) := by decide +kernel
theorem d_Law_law_195 : decode code 195 = .ok (.aload_n 1, 1) := by decide +kernel
theorem d_Law_law_196 : decode code 196 = .ok (.aload_n 0, 1) := by decide +kernel
theorem d_Law_law_197 : decode code 197 = .ok (.iload_n 3, 1) := by decide +kernel
theorem d_Law_law_198 : decode code 198 = .ok (.iconst 1, 1) := by decide +kernel
theorem d_Law_law_199 : decode code 199 = .ok (.iadd, 1) := by decide +kernel
theorem d_Law_law_200 : decode code 200 = .ok (.iaload, 1) := by decide +kernel
theorem d_Law_law_201 : decode code 201 = .ok (.aload_n 0, 1) := by decide +kernel
theorem d_Law_law_202 : decode code 202 = .ok (.iload_n 3, 1) := by decide +kernel
theorem d_Law_law_203 : decode code 203 = .ok (.iconst 2, 1) := by decide +kernel
theorem d_Law_law_204 : decode code 204 = .ok (.iadd, 1) := by decide +kernel
theorem d_Law_law_205 : decode code 205 = .ok (.iaload, 1) := by decide +kernel
theorem d_Law_law_206 : decode code 206 = .ok (.invokevirtual 28, 3) := by decide +kernel
theorem d_Law_law_209 : decode code 209 = .ok (.aload_n 2, 1) := by decide +kernel
theorem d_Law_law_210 : decode code 210 = .ok (.aload_n 0, 1) := by decide +kernel
theorem d_Law_law_211 : decode code 211 = .ok (.iload_n 3, 1) := by decide +kernel
theorem d_Law_law_212 : decode code 212 = .ok (.iconst 1, 1) := by decide +kernel
theorem d_Law_law_213 : decode code 213 = .ok (.iadd, 1) := by decide +kernel
theorem d_Law_law_214 : decode code 214 = .ok (.iaload, 1) := by decide +kernel
theorem d_Law_law_215 : decode code 215 = .ok (.aload_n 0, 1) := by decide +kernel
theorem d_Law_law_216 : decode code 216 = .ok (.iload_n 3, 1) := by decide +kernel
theorem d_Law_law_217 : decode code 217 = .ok (.iconst 2, 1) := by decide +kernel
theorem d_Law_law_218 : decode code 218 = .ok (.iadd, 1) := by decide +kernel
theorem d_Law_law_219 : decode code 219 = .ok (.iaload, 1) := by decide +kernel
theorem d_Law_law_220 : decode code 220 = .ok (.invokevirtual 31, 3) := by decide +kernel
theorem d_Law_law_223 : decode code 223 = .ok (.if_icmp .eq 163, 3) := by decide +kernel
theorem d_Law_law_228 : decode code 228 = .ok (.aload_n 1, 1) := by decide +kernel
theorem d_Law_law_229 : decode code 229 = .ok (.aload_n 0, 1) := by decide +kernel
theorem d_Law_law_230 : decode code 230 = .ok (.iload_n 3, 1) := by decide +kernel
theorem d_Law_law_231 : decode code 231 = .ok (.iconst 1, 1) := by decide +kernel
theorem d_Law_law_232 : decode code 232 = .ok (.iadd, 1) := by decide +kernel
theorem d_Law_law_233 : decode code 233 = .ok (.iaload, 1) := by decide +kernel
theorem d_Law_law_234 : decode code 234 = .ok (.invokevirtual 32, 3) := by decide +kernel
theorem d_Law_law_237 : decode code 237 = .ok (.aload_n 2, 1) := by decide +kernel
theorem d_Law_law_238 : decode code 238 = .ok (.aload_n 0, 1) := by decide +kernel
theorem d_Law_law_239 : decode code 239 = .ok (.iload_n 3, 1) := by decide +kernel
theorem d_Law_law_240 : decode code 240 = .ok (.iconst 1, 1) := by decide +kernel
theorem d_Law_law_241 : decode code 241 = .ok (.iadd, 1) := by decide +kernel
theorem d_Law_law_242 : decode code 242 = .ok (.iaload, 1) := by decide +kernel
theorem d_Law_law_243 : decode code 243 = .ok (.invokevirtual 35, 3) := by decide +kernel
theorem d_Law_law_246 : decode code 246 = .ok (.if_icmp .eq 140, 3) := by decide +kernel
theorem d_Law_law_251 : decode code 251 = .ok (.aload_n 1, 1) := by decide +kernel
theorem d_Law_law_252 : decode code 252 = .ok (.aload_n 0, 1) := by decide +kernel
theorem d_Law_law_253 : decode code 253 = .ok (.iload_n 3, 1) := by decide +kernel
theorem d_Law_law_254 : decode code 254 = .ok (.iconst 1, 1) := by decide +kernel
theorem d_Law_law_255 : decode code 255 = .ok (.iadd, 1) := by decide +kernel
theorem d_Law_law_256 : decode code 256 = .ok (.iaload, 1) := by decide +kernel
theorem d_Law_law_257 : decode code 257 = .ok (.invokevirtual 36, 3) := by decide +kernel
theorem d_Law_law_260 : decode code 260 = .ok (.aload_n 2, 1) := by decide +kernel
theorem d_Law_law_261 : decode code 261 = .ok (.aload_n 0, 1) := by decide +kernel
theorem d_Law_law_262 : decode code 262 = .ok (.iload_n 3, 1) := by decide +kernel
theorem d_Law_law_263 : decode code 263 = .ok (.iconst 1, 1) := by decide +kernel
theorem d_Law_law_264 : decode code 264 = .ok (.iadd, 1) := by decide +kernel
theorem d_Law_law_265 : decode code 265 = .ok (.iaload, 1) := by decide +kernel
theorem d_Law_law_266 : decode code 266 = .ok (.invokevirtual 39, 3) := by decide +kernel
theorem d_Law_law_269 : decode code 269 = .ok (.if_icmp .eq 117, 3) := by decide +kernel
theorem d_Law_law_274 : decode code 274 = .ok (.aload_n 1, 1) := by decide +kernel
theorem d_Law_law_275 : decode code 275 = .ok (.invokevirtual 40, 3) := by decide +kernel
theorem d_Law_law_278 : decode code 278 = .ok (.aload_n 2, 1) := by decide +kernel
theorem d_Law_law_279 : decode code 279 = .ok (.invokevirtual 44, 3) := by decide +kernel
theorem d_Law_law_282 : decode code 282 = .ok (.if_icmp .eq 104, 3) := by decide +kernel
theorem d_Law_law_287 : decode code 287 = .ok (.aload_n 1, 1) := by decide +kernel
theorem d_Law_law_288 : decode code 288 = .ok (.invokevirtual 45, 3) := by decide +kernel
theorem d_Law_law_291 : decode code 291 = .ok (.aload_n 2, 1) := by decide +kernel
theorem d_Law_law_292 : decode code 292 = .ok (.invokevirtual 48, 3) := by decide +kernel
theorem d_Law_law_295 : decode code 295 = .ok (.if_icmp .eq 91, 3) := by decide +kernel
theorem d_Law_law_300 : decode code 300 = .ok (.aload_n 1, 1) := by decide +kernel
theorem d_Law_law_301 : decode code 301 = .ok (.aload_n 0, 1) := by decide +kernel
theorem d_Law_law_302 : decode code 302 = .ok (.iload_n 3, 1) := by decide +kernel
theorem d_Law_law_303 : decode code 303 = .ok (.iconst 1, 1) := by decide +kernel
theorem d_Law_law_304 : decode code 304 = .ok (.iadd, 1) := by decide +kernel
theorem d_Law_law_305 : decode code 305 = .ok (.iaload, 1) := by decide +kernel
theorem d_Law_law_306 : decode code 306 = .ok (.ifCond .eq 7, 3) := by decide +kernel
theorem d_Law_law_309 : decode code 309 = .ok (.iconst 1, 1) := by decide +kernel
theorem d_Law_law_310 : decode code 310 = .ok (.goto 4, 3) := by decide +kernel
theorem d_Law_law_313 : decode code 313 = .ok (.iconst 0, 1) := by decide +kernel
theorem d_Law_law_314 : decode code 314 = .ok (.invokevirtual 49, 3) := by decide +kernel
theorem d_Law_law_317 : decode code 317 = .ok (.aload_n 2, 1) := by decide +kernel
theorem d_Law_law_318 : decode code 318 = .ok (.aload_n 0, 1) := by decide +kernel
theorem d_Law_law_319 : decode code 319 = .ok (.iload_n 3, 1) := by decide +kernel
theorem d_Law_law_320 : decode code 320 = .ok (.iconst 1, 1) := by decide +kernel
theorem d_Law_law_321 : decode code 321 = .ok (.iadd, 1) := by decide +kernel
theorem d_Law_law_322 : decode code 322 = .ok (.iaload, 1) := by decide +kernel
theorem d_Law_law_323 : decode code 323 = .ok (.ifCond .eq 7, 3) := by decide +kernel
theorem d_Law_law_326 : decode code 326 = .ok (.iconst 1, 1) := by decide +kernel
theorem d_Law_law_327 : decode code 327 = .ok (.goto 4, 3) := by decide +kernel
theorem d_Law_law_330 : decode code 330 = .ok (.iconst 0, 1) := by decide +kernel
theorem d_Law_law_331 : decode code 331 = .ok (.invokevirtual 53, 3) := by decide +kernel
theorem d_Law_law_334 : decode code 334 = .ok (.goto 52, 3) := by decide +kernel
theorem d_Law_law_337 : decode code 337 = .ok (.aload_n 1, 1) := by decide +kernel
theorem d_Law_law_338 : decode code 338 = .ok (.invokevirtual 54, 3) := by decide +kernel
theorem d_Law_law_341 : decode code 341 = .ok (.aload_n 2, 1) := by decide +kernel
theorem d_Law_law_342 : decode code 342 = .ok (.invokevirtual 58, 3) := by decide +kernel
theorem d_Law_law_345 : decode code 345 = .ok (.if_icmp .eq 41, 3) := by decide +kernel
theorem d_Law_law_350 : decode code 350 = .ok (.aload_n 1, 1) := by decide +kernel
theorem d_Law_law_351 : decode code 351 = .ok (.aload_n 0, 1) := by decide +kernel
theorem d_Law_law_352 : decode code 352 = .ok (.iload_n 3, 1) := by decide +kernel
theorem d_Law_law_353 : decode code 353 = .ok (.iconst 1, 1) := by decide +kernel
theorem d_Law_law_354 : decode code 354 = .ok (.iadd, 1) := by decide +kernel
theorem d_Law_law_355 : decode code 355 = .ok (.iaload, 1) := by decide +kernel
theorem d_Law_law_356 : decode code 356 = .ok (.invokevirtual 59, 3) := by decide +kernel
theorem d_Law_law_359 : decode code 359 = .ok (.aload_n 2, 1) := by decide +kernel
theorem d_Law_law_360 : decode code 360 = .ok (.aload_n 0, 1) := by decide +kernel
theorem d_Law_law_361 : decode code 361 = .ok (.iload_n 3, 1) := by decide +kernel
theorem d_Law_law_362 : decode code 362 = .ok (.iconst 1, 1) := by decide +kernel
theorem d_Law_law_363 : decode code 363 = .ok (.iadd, 1) := by decide +kernel
theorem d_Law_law_364 : decode code 364 = .ok (.iaload, 1) := by decide +kernel
theorem d_Law_law_365 : decode code 365 = .ok (.invokevirtual 62, 3) := by decide +kernel
theorem d_Law_law_368 : decode code 368 = .ok (.if_icmp .eq 18, 3) := by decide +kernel
theorem d_Law_law_373 : decode code 373 = .ok (.aload_n 1, 1) := by decide +kernel
theorem d_Law_law_374 : decode code 374 = .ok (.invokevirtual 63, 3) := by decide +kernel
theorem d_Law_law_377 : decode code 377 = .ok (.aload_n 2, 1) := by decide +kernel
theorem d_Law_law_378 : decode code 378 = .ok (.invokevirtual 66, 3) := by decide +kernel
theorem d_Law_law_381 : decode code 381 = .ok (.if_icmp .eq 5, 3) := by decide +kernel
theorem d_Law_law_386 : decode code 386 = .ok (.iinc 3 4, 3) := by decide +kernel
theorem d_Law_law_389 : decode code 389 = .ok (.goto (-371), 3) := by decide +kernel
theorem d_Law_law_392 : decode code 392 = .ok (.iconst 1, 1) := by decide +kernel
theorem d_Law_law_393 : decode code 393 = .ok (.ireturn, 1) := by decide +kernel
