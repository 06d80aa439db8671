theorem d_Prc_changed_154 : decode b_Prc_changed 154 = .ok (.iconst 1, 1) := by decide +kernel
theorem d_Prc_changed_155 : decode b_Prc_changed 155 = .ok (.ishl, 1) := by decide +kernel
theorem d_Prc_changed_156 : decode b_Prc_changed 156 = .ok (.iload 4, 2) := by decide +kernel
theorem d_Prc_changed_158 : decode b_Prc_changed 158 = .ok (.iand, 1) := by decide +kernel
theorem d_Prc_changed_159 : decode b_Prc_changed 159 = .ok (.iload 6, 2) := by decide +kernel
theorem d_Prc_changed_161 : decode b_Prc_changed 161 = .ok (.ifCond .eq 7, 3) := by decide +kernel
theorem d_Prc_changed_164 : decode b_Prc_changed 164 = .ok (.iconst 1, 1) := by decide +kernel
theorem d_Prc_changed_165 : decode b_Prc_changed 165 = .ok (.goto 4, 3) := by decide +kernel
theorem d_Prc_changed_168 : decode b_Prc_changed 168 = .ok (.iconst 0, 1) := by decide +kernel
theorem d_Prc_changed_169 : decode b_Prc_changed 169 = .ok (.ior, 1) := by decide +kernel
theorem d_Prc_changed_170 : decode b_Prc_changed 170 = .ok (.goto 46, 3) := by decide +kernel
theorem d_Prc_changed_173 : decode b_Prc_changed 173 = .ok (.iload_n 2, 1) := by decide +kernel
theorem d_Prc_changed_174 : decode b_Prc_changed 174 = .ok (.iconst 1, 1) := by decide +kernel
theorem d_Prc_changed_175 : decode b_Prc_changed 175 = .ok (.ishr, 1) := by decide +kernel
theorem d_Prc_changed_176 : decode b_Prc_changed 176 = .ok (.goto 40, 3) := by decide +kernel
theorem d_Prc_changed_179 : decode b_Prc_changed 179 = .ok (.iload_n 2, 1) := by decide +kernel
theorem d_Prc_changed_180 : decode b_Prc_changed 180 = .ok (.iconst 1, 1) := by decide +kernel
theorem d_Prc_changed_181 : decode b_Prc_changed 181 = .ok (.ishr, 1) := by decide +kernel
theorem d_Prc_changed_182 : decode b_Prc_changed 182 = .ok (.iload 6, 2) := by decide +kernel
theorem d_Prc_changed_184 : decode b_Prc_changed 184 = .ok (.ifCond .eq 8, 3) := by decide +kernel
theorem d_Prc_changed_187 : decode b_Prc_changed 187 = .ok (.iload 5, 2) := by decide +kernel
theorem d_Prc_changed_189 : decode b_Prc_changed 189 = .ok (.goto 4, 3) := by decide +kernel
theorem d_Prc_changed_192 : decode b_Prc_changed 192 = .ok (.iconst 0, 1) := by decide +kernel
theorem d_Prc_changed_193 : decode b_Prc_changed 193 = .ok (.ior, 1) := by decide +kernel
theorem d_Prc_changed_194 : decode b_Prc_changed 194 = .ok (.goto 22, 3) := by decide +kernel
theorem d_Prc_changed_197 : decode b_Prc_changed 197 = .ok (.iload_n 2, 1) := by decide +kernel
theorem d_Prc_changed_198 : decode b_Prc_changed 198 = .ok (.iconst 1, 1) := by decide +kernel
theorem d_Prc_changed_199 : decode b_Prc_changed 199 = .ok (.iadd, 1) := by decide +kernel
theorem d_Prc_changed_200 : decode b_Prc_changed 200 = .ok (.iload 4, 2) := by decide +kernel
theorem d_Prc_changed_202 : decode b_Prc_changed 202 = .ok (.iand, 1) := by decide +kernel
theorem d_Prc_changed_203 : decode b_Prc_changed 203 = .ok (.goto 13, 3) := by decide +kernel
theorem d_Prc_changed_206 : decode b_Prc_changed 206 = .ok (.iload_n 2, 1) := by decide +kernel
theorem d_Prc_changed_207 : decode b_Prc_changed 207 = .ok (.iconst 1, 1) := by decide +kernel
theorem d_Prc_changed_208 : decode b_Prc_changed 208 = .ok (.isub, 1) := by decide +kernel
theorem d_Prc_changed_209 : decode b_Prc_changed 209 = .ok (.iload 4, 2) := by decide +kernel
theorem d_Prc_changed_211 : decode b_Prc_changed 211 = .ok (.iand, 1) := by decide +kernel
theorem d_Prc_changed_212 : decode b_Prc_changed 212 = .ok (.goto 4, 3) := by decide +kernel
theorem d_Prc_changed_215 : decode b_Prc_changed 215 = .ok (.iload_n 2, 1) := by decide +kernel
theorem d_Prc_changed_216 : decode b_Prc_changed 216 = .ok (.ireturn, 1) := by decide +kernel
theorem d_Prc_transfer_0 : decode b_Prc_transfer 0 = .ok (.iload_n 1, 1) := by decide +kernel
theorem d_Prc_transfer_1 : decode b_Prc_transfer 1 = .ok (.lookupswitch 373 #[(27, 302), (59, 268), (91, 234), (123, 251), (138, 200), (152, 217), (154, 285), (155, 166), (168, 132), (170, 115), (186, 149), (187, 183), (235, 319)], 115) := by decide +kernel
theorem d_Prc_transfer_116 : decode b_Prc_transfer 116 = .ok (.aload_n 0, 1) := by decide +kernel
theorem d_Prc_transfer_117 : decode b_Prc_transfer 117 = .ok (.getfield 13, 3) := by decide +kernel
theorem d_Prc_transfer_120 : decode b_Prc_transfer 120 = .ok (.aload_n 0, 1) := by decide +kernel
theorem d_Prc_transfer_121 : decode b_Prc_transfer 121 = .ok (.getfield 13, 3) := by decide +kernel
theorem d_Prc_transfer_124 : decode b_Prc_transfer 124 = .ok (.getfield 135, 3) := by decide +kernel
theorem d_Prc_transfer_127 : decode b_Prc_transfer 127 = .ok (.invokevirtual 174, 3) := by decide +kernel
theorem d_Prc_transfer_130 : decode b_Prc_transfer 130 = .ok (.goto 246, 3) := by decide +kernel
theorem d_Prc_transfer_133 : decode b_Prc_transfer 133 = .ok (.aload_n 0, 1) := by decide +kernel
theorem d_Prc_transfer_134 : decode b_Prc_transfer 134 = .ok (.getfield 13, 3) := by decide +kernel
theorem d_Prc_transfer_137 : decode b_Prc_transfer 137 = .ok (.aload_n 0, 1) := by decide +kernel
theorem d_Prc_transfer_138 : decode b_Prc_transfer 138 = .ok (.getfield 13, 3) := by decide +kernel
theorem d_Prc_transfer_141 : decode b_Prc_transfer 141 = .ok (.getfield 135, 3) := by decide +kernel
theorem d_Prc_transfer_144 : decode b_Prc_transfer 144 = .ok (.invokevirtual 177, 3) := by decide +kernel
theorem d_Prc_transfer_147 : decode b_Prc_transfer 147 = .ok (.goto 229, 3) := by decide +kernel
theorem d_Prc_transfer_150 : decode b_Prc_transfer 150 = .ok (.aload_n 0, 1) := by decide +kernel
theorem d_Prc_transfer_151 : decode b_Prc_transfer 151 = .ok (.getfield 13, 3) := by decide +kernel
theorem d_Prc_transfer_154 : decode b_Prc_transfer 154 = .ok (.aload_n 0, 1) := by decide +kernel
theorem d_Prc_transfer_155 : decode b_Prc_transfer 155 = .ok (.getfield 13, 3) := by decide +kernel
theorem d_Prc_transfer_158 : decode b_Prc_transfer 158 = .ok (.getfield 190, 3) := by decide +kernel
theorem d_Prc_transfer_161 : decode b_Prc_transfer 161 = .ok (.invokevirtual 174, 3) := by decide +kernel
theorem d_Prc_transfer_164 : decode b_Prc_transfer 164 = .ok (.goto 212, 3) := by decide +kernel
theorem d_Prc_transfer_167 : decode b_Prc_transfer 167 = .ok (.aload_n 0, 1) := by decide +kernel
theorem d_Prc_transfer_168 : decode b_Prc_transfer 168 = .ok (.getfield 13, 3) := by decide +kernel
theorem d_Prc_transfer_171 : decode b_Prc_transfer 171 = .ok (.aload_n 0, 1) := by decide +kernel
theorem d_Prc_transfer_172 : decode b_Prc_transfer 172 = .ok (.getfield 13, 3) := by decide +kernel
theorem d_Prc_transfer_175 : decode b_Prc_transfer 175 = .ok (.getfield 180, 3) := by decide +kernel
theorem d_Prc_transfer_178 : decode b_Prc_transfer 178 = .ok (.invokevirtual 177, 3) := by decide +kernel
theorem d_Prc_transfer_181 : decode b_Prc_transfer 181 = .ok (.goto 195, 3) := by decide +kernel
theorem d_Prc_transfer_184 : decode b_Prc_transfer 184 = .ok (.aload_n 0, 1) := by decide +kernel
theorem d_Prc_transfer_185 : decode b_Prc_transfer 185 = .ok (.getfield 13, 3) := by decide +kernel
theorem d_Prc_transfer_188 : decode b_Prc_transfer 188 = .ok (.aload_n 0, 1) := by decide +kernel
theorem d_Prc_transfer_189 : decode b_Prc_transfer 189 = .ok (.getfield 13, 3) := by decide +kernel
theorem d_Prc_transfer_192 : decode b_Prc_transfer 192 = .ok (.getfield 183, 3) := by decide +kernel
theorem d_Prc_transfer_195 : decode b_Prc_transfer 195 = .ok (.invokevirtual 174, 3) := by decide +kernel
theorem d_Prc_transfer_198 : decode b_Prc_transfer 198 = .ok (.goto 178, 3) := by decide +kernel
theorem d_Prc_transfer_201 : decode b_Prc_transfer 201 = .ok (.aload_n 0, 1) := by decide +kernel
theorem d_Prc_transfer_202 : decode b_Prc_transfer 202 = .ok (.getfield 13, 3) := by decide +kernel
theorem d_Prc_transfer_205 : decode b_Prc_transfer 205 = .ok (.aload_n 0, 1) := by decide +kernel
theorem d_Prc_transfer_206 : decode b_Prc_transfer 206 = .ok (.getfield 13, 3) := by decide +kernel
theorem d_Prc_transfer_209 : decode b_Prc_transfer 209 = .ok (.getfield 180, 3) := by decide +kernel
theorem d_Prc_transfer_212 : decode b_Prc_transfer 212 = .ok (.invokevirtual 153, 3) := by decide +kernel
theorem d_Prc_transfer_215 : decode b_Prc_transfer 215 = .ok (.goto 161, 3) := by decide +kernel
theorem d_Prc_transfer_218 : decode b_Prc_transfer 218 = .ok (.aload_n 0, 1) := by decide +kernel
theorem d_Prc_transfer_219 : decode b_Prc_transfer 219 = .ok (.getfield 13, 3) := by decide +kernel
theorem d_Prc_transfer_222 : decode b_Prc_transfer 222 = .ok (.aload_n 0, 1) := by decide +kernel
theorem d_Prc_transfer_223 : decode b_Prc_transfer 223 = .ok (.getfield 13, 3) := by decide +kernel
theorem d_Prc_transfer_226 : decode b_Prc_transfer 226 = .ok (.getfield 183, 3) := by decide +kernel
theorem d_Prc_transfer_229 : decode b_Prc_transfer 229 = .ok (.invokevirtual 153, 3) := by decide +kernel
theorem d_Prc_transfer_232 : decode b_Prc_transfer 232 = .ok (.goto 144, 3) := by decide +kernel
theorem d_Prc_transfer_235 : decode b_Prc_transfer 235 = .ok (.aload_n 0, 1) := by decide +kernel
theorem d_Prc_transfer_236 : decode b_Prc_transfer 236 = .ok (.getfield 13, 3) := by decide +kernel
theorem d_Prc_transfer_239 : decode b_Prc_transfer 239 = .ok (.aload_n 0, 1) := by decide +kernel
theorem d_Prc_transfer_240 : decode b_Prc_transfer 240 = .ok (.getfield 13, 3) := by decide +kernel
theorem d_Prc_transfer_243 : decode b_Prc_transfer 243 = .ok (.getfield 135, 3) := by decide +kernel
theorem d_Prc_transfer_246 : decode b_Prc_transfer 246 = .ok (.invokevirtual 193, 3) := by decide +kernel
theorem d_Prc_transfer_249 : decode b_Prc_transfer 249 = .ok (.goto 127, 3) := by decide +kernel
theorem d_Prc_transfer_252 : decode b_Prc_transfer 252 = .ok (.aload_n 0, 1) := by decide +kernel
theorem d_Prc_transfer_253 : decode b_Prc_transfer 253 = .ok (.getfield 13, 3) := by decide +kernel
theorem d_Prc_transfer_256 : decode b_Prc_transfer 256 = .ok (.aload_n 0, 1) := by decide +kernel
theorem d_Prc_transfer_257 : decode b_Prc_transfer 257 = .ok (.getfield 13, 3) := by decide +kernel
theorem d_Prc_transfer_260 : decode b_Prc_transfer 260 = .ok (.getfield 196, 3) := by decide +kernel
theorem d_Prc_transfer_263 : decode b_Prc_transfer 263 = .ok (.invokevirtual 199, 3) := by decide +kernel
theorem d_Prc_transfer_266 : decode b_Prc_transfer 266 = .ok (.goto 110, 3) := by decide +kernel
theorem d_Prc_transfer_269 : decode b_Prc_transfer 269 = .ok (.aload_n 0, 1) := by decide +kernel
theorem d_Prc_transfer_270 : decode b_Prc_transfer 270 = .ok (.getfield 13, 3) := by decide +kernel
theorem d_Prc_transfer_273 : decode b_Prc_transfer 273 = .ok (.aload_n 0, 1) := by decide +kernel
theorem d_Prc_transfer_274 : decode b_Prc_transfer 274 = .ok (.getfield 13, 3) := by decide +kernel
theorem d_Prc_transfer_277 : decode b_Prc_transfer 277 = .ok (.getfield 190, 3) := by decide +kernel
theorem d_Prc_transfer_280 : decode b_Prc_transfer 280 = .ok (.invokevirtual 199, 3) := by decide +kernel
theorem d_Prc_transfer_283 : decode b_Prc_transfer 283 = .ok (.goto 93, 3) := by decide +kernel
theorem d_Prc_transfer_286 : decode b_Prc_transfer 286 = .ok (.aload_n 0, 1) := by decide +kernel
theorem d_Prc_transfer_287 : decode b_Prc_transfer 287 = .ok (.getfield 13, 3) := by decide +kernel
theorem d_Prc_transfer_290 : decode b_Prc_transfer 290 = .ok (.aload_n 0, 1) := by decide +kernel
theorem d_Prc_transfer_291 : decode b_Prc_transfer 291 = .ok (.getfield 13, 3) := by decide +kernel
theorem d_Prc_transfer_294 : decode b_Prc_transfer 294 = .ok (.getfield 180, 3) := by decide +kernel
theorem d_Prc_transfer_297 : decode b_Prc_transfer 297 = .ok (.putfield 190, 3) := by decide +kernel
theorem d_Prc_transfer_300 : decode b_Prc_transfer 300 = .ok (.goto 76, 3) := by decide +kernel
theorem d_Prc_transfer_303 : decode b_Prc_transfer 303 = .ok (.aload_n 0, 1) := by decide +kernel
theorem d_Prc_transfer_304 : decode b_Prc_transfer 304 = .ok (.getfield 13, 3) := by decide +kernel
theorem d_Prc_transfer_307 : decode b_Prc_transfer 307 = .ok (.aload_n 0, 1) := by decide +kernel
theorem d_Prc_transfer_308 : decode b_Prc_transfer 308 = .ok (.getfield 13, 3) := by decide +kernel
theorem d_Prc_transfer_311 : decode b_Prc_transfer 311 = .ok (.getfield 135, 3) := by decide +kernel
theorem d_Prc_transfer_314 : decode b_Prc_transfer 314 = .ok (.putfield 190, 3) := by decide +kernel
theorem d_Prc_transfer_317 : decode b_Prc_transfer 317 = .ok (.goto 59, 3) := by decide +kernel
theorem d_Prc_transfer_320 : decode b_Prc_transfer 320 = .ok (.aload_n 0, 1) := by decide +kernel
theorem d_Prc_transfer_321 : decode b_Prc_transfer 321 = .ok (.getfield 13, 3) := by decide +kernel
theorem d_Prc_transfer_324 : decode b_Prc_transfer 324 = .ok (.aload_n 0, 1) := by decide +kernel
theorem d_Prc_transfer_325 : decode b_Prc_transfer 325 = .ok (.getfield 13, 3) := by decide +kernel
theorem d_Prc_transfer_328 : decode b_Prc_transfer 328 = .ok (.getfield 135, 3) := by decide +kernel
theorem d_Prc_transfer_331 : decode b_Prc_transfer 331 = .ok (.bipush 8, 2) := by decide +kernel
theorem d_Prc_transfer_333 : decode b_Prc_transfer 333 = .ok (.ishr, 1) := by decide +kernel
theorem d_Prc_transfer_334 : decode b_Prc_transfer 334 = .ok (.aload_n 0, 1) := by decide +kernel
theorem d_Prc_transfer_335 : decode b_Prc_transfer 335 = .ok (.getfield 13, 3) := by decide +kernel
theorem d_Prc_transfer_338 : decode b_Prc_transfer 338 = .ok (.getfield 135, 3) := by decide +kernel
theorem d_Prc_transfer_341 : decode b_Prc_transfer 341 = .ok (.sipush 255, 3) := by decide +kernel
theorem d_Prc_transfer_344 : decode b_Prc_transfer 344 = .ok (.iand, 1) := by decide +kernel
theorem d_Prc_transfer_345 : decode b_Prc_transfer 345 = .ok (.bipush 8, 2) := by decide +kernel
theorem d_Prc_transfer_347 : decode b_Prc_transfer 347 = .ok (.ishl, 1) := by decide +kernel
theorem d_Prc_transfer_348 : decode b_Prc_transfer 348 = .ok (.ior, 1) := by decide +kernel
theorem d_Prc_transfer_349 : decode b_Prc_transfer 349 = .ok (.putfield 135, 3) := by decide +kernel
theorem d_Prc_transfer_352 : decode b_Prc_transfer 352 = .ok (.aload_n 0, 1) := by decide +kernel
theorem d_Prc_transfer_353 : decode b_Prc_transfer 353 = .ok (.getfield 13, 3) := by decide +kernel
theorem d_Prc_transfer_356 : decode b_Prc_transfer 356 = .ok (.aload_n 0, 1) := by decide +kernel
theorem d_Prc_transfer_357 : decode b_Prc_transfer 357 = .ok (.getfield 13, 3) := by decide +kernel
theorem d_Prc_transfer_360 : decode b_Prc_transfer 360 = .ok (.getfield 135, 3) := by decide +kernel
theorem d_Prc_transfer_363 : decode b_Prc_transfer 363 = .ok (.sipush 255, 3) := by decide +kernel
theorem d_Prc_transfer_366 : decode b_Prc_transfer 366 = .ok (.iand, 1) := by decide +kernel
theorem d_Prc_transfer_367 : decode b_Prc_transfer 367 = .ok (.iconst 0, 1) := by decide +kernel
theorem d_Prc_transfer_368 : decode b_Prc_transfer 368 = .ok (.invokevirtual 168, 3) := by decide +kernel
theorem d_Prc_transfer_371 : decode b_Prc_transfer 371 = .ok (.goto 5, 3) := by decide +kernel
theorem d_Prc_transfer_374 : decode b_Prc_transfer 374 = .ok (.iconst 0, 1) := by decide +kernel
theorem d_Prc_transfer_375 : decode b_Prc_transfer 375 = .ok (.ireturn, 1) := by decide +kernel
theorem d_Prc_transfer_376 : decode b_Prc_transfer 376 = .ok (.iconst 1, 1) := by decide +kernel
theorem d_Prc_transfer_377 : decode b_Prc_transfer 377 = .ok (.ireturn, 1) := by decide +kernel
theorem d_Prc_push_0 : decode b_Prc_push 0 = .ok (.iload_n 1, 1) := by decide +kernel
theorem d_Prc_push_1 : decode b_Prc_push 1 = .ok (.lookupswitch 232 #[(8, 147), (11, 198), (72, 75), (75, 181), (90, 123), (139, 164), (218, 99), (244, 215)], 75) := by decide +kernel
theorem d_Prc_push_76 : decode b_Prc_push 76 = .ok (.aload_n 0, 1) := by decide +kernel
theorem d_Prc_push_77 : decode b_Prc_push 77 = .ok (.getfield 29, 3) := by decide +kernel
theorem d_Prc_push_80 : decode b_Prc_push 80 = .ok (.aload_n 0, 1) := by decide +kernel
theorem d_Prc_push_81 : decode b_Prc_push 81 = .ok (.getfield 13, 3) := by decide +kernel
theorem d_Prc_push_84 : decode b_Prc_push 84 = .ok (.getfield 135, 3) := by decide +kernel
theorem d_Prc_push_87 : decode b_Prc_push 87 = .ok (.aload_n 0, 1) := by decide +kernel
theorem d_Prc_push_88 : decode b_Prc_push 88 = .ok (.getfield 13, 3) := by decide +kernel
theorem d_Prc_push_91 : decode b_Prc_push 91 = .ok (.invokevirtual 128, 3) := by decide +kernel
theorem d_Prc_push_94 : decode b_Prc_push 94 = .ok (.invokevirtual 202, 3) := by decide +kernel
theorem d_Prc_push_97 : decode b_Prc_push 97 = .ok (.goto 138, 3) := by decide +kernel
theorem d_Prc_push_100 : decode b_Prc_push 100 = .ok (.aload_n 0, 1) := by decide +kernel
theorem d_Prc_push_101 : decode b_Prc_push 101 = .ok (.getfield 29, 3) := by decide +kernel
theorem d_Prc_push_104 : decode b_Prc_push 104 = .ok (.aload_n 0, 1) := by decide +kernel
theorem d_Prc_push_105 : decode b_Prc_push 105 = .ok (.getfield 13, 3) := by decide +kernel
theorem d_Prc_push_108 : decode b_Prc_push 108 = .ok (.getfield 180, 3) := by decide +kernel
theorem d_Prc_push_111 : decode b_Prc_push 111 = .ok (.aload_n 0, 1) := by decide +kernel
theorem d_Prc_push_112 : decode b_Prc_push 112 = .ok (.getfield 13, 3) := by decide +kernel
theorem d_Prc_push_115 : decode b_Prc_push 115 = .ok (.invokevirtual 171, 3) := by decide +kernel
theorem d_Prc_push_118 : decode b_Prc_push 118 = .ok (.invokevirtual 202, 3) := by decide +kernel
theorem d_Prc_push_121 : decode b_Prc_push 121 = .ok (.goto 114, 3) := by decide +kernel
theorem d_Prc_push_124 : decode b_Prc_push 124 = .ok (.aload_n 0, 1) := by decide +kernel
theorem d_Prc_push_125 : decode b_Prc_push 125 = .ok (.getfield 29, 3) := by decide +kernel
theorem d_Prc_push_128 : decode b_Prc_push 128 = .ok (.aload_n 0, 1) := by decide +kernel
theorem d_Prc_push_129 : decode b_Prc_push 129 = .ok (.getfield 13, 3) := by decide +kernel
theorem d_Prc_push_132 : decode b_Prc_push 132 = .ok (.getfield 183, 3) := by decide +kernel
theorem d_Prc_push_135 : decode b_Prc_push 135 = .ok (.aload_n 0, 1) := by decide +kernel
theorem d_Prc_push_136 : decode b_Prc_push 136 = .ok (.getfield 13, 3) := by decide +kernel
theorem d_Prc_push_139 : decode b_Prc_push 139 = .ok (.invokevirtual 171, 3) := by decide +kernel
theorem d_Prc_push_142 : decode b_Prc_push 142 = .ok (.invokevirtual 202, 3) := by decide +kernel
theorem d_Prc_push_145 : decode b_Prc_push 145 = .ok (.goto 90, 3) := by decide +kernel
theorem d_Prc_push_148 : decode b_Prc_push 148 = .ok (.aload_n 0, 1) := by decide +kernel
theorem d_Prc_push_149 : decode b_Prc_push 149 = .ok (.getfield 29, 3) := by decide +kernel
theorem d_Prc_push_152 : decode b_Prc_push 152 = .ok (.aload_n 0, 1) := by decide +kernel
theorem d_Prc_push_153 : decode b_Prc_push 153 = .ok (.getfield 13, 3) := by decide +kernel
theorem d_Prc_push_156 : decode b_Prc_push 156 = .ok (.getfield 109, 3) := by decide +kernel
theorem d_Prc_push_159 : decode b_Prc_push 159 = .ok (.invokevirtual 100, 3) := by decide +kernel
theorem d_Prc_push_162 : decode b_Prc_push 162 = .ok (.goto 73, 3) := by decide +kernel
theorem d_Prc_push_165 : decode b_Prc_push 165 = .ok (.aload_n 0, 1) := by decide +kernel
theorem d_Prc_push_166 : decode b_Prc_push 166 = .ok (.getfield 29, 3) := by decide +kernel
theorem d_Prc_push_169 : decode b_Prc_push 169 = .ok (.aload_n 0, 1) := by decide +kernel
theorem d_Prc_push_170 : decode b_Prc_push 170 = .ok (.getfield 13, 3) := by decide +kernel
theorem d_Prc_push_173 : decode b_Prc_push 173 = .ok (.getfield 205, 3) := by decide +kernel
theorem d_Prc_push_176 : decode b_Prc_push 176 = .ok (.invokevirtual 100, 3) := by decide +kernel
theorem d_Prc_push_179 : decode b_Prc_push 179 = .ok (.goto 56, 3) := by decide +kernel
theorem d_Prc_push_182 : decode b_Prc_push 182 = .ok (.aload_n 0, 1) := by decide +kernel
theorem d_Prc_push_183 : decode b_Prc_push 183 = .ok (.getfield 29, 3) := by decide +kernel
theorem d_Prc_push_186 : decode b_Prc_push 186 = .ok (.aload_n 0, 1) := by decide +kernel
theorem d_Prc_push_187 : decode b_Prc_push 187 = .ok (.getfield 13, 3) := by decide +kernel
theorem d_Prc_push_190 : decode b_Prc_push 190 = .ok (.getfield 97, 3) := by decide +kernel
theorem d_Prc_push_193 : decode b_Prc_push 193 = .ok (.invokevirtual 100, 3) := by decide +kernel
theorem d_Prc_push_196 : decode b_Prc_push 196 = .ok (.goto 39, 3) := by decide +kernel
theorem d_Prc_push_199 : decode b_Prc_push 199 = .ok (.aload_n 0, 1) := by decide +kernel
theorem d_Prc_push_200 : decode b_Prc_push 200 = .ok (.getfield 29, 3) := by decide +kernel
theorem d_Prc_push_203 : decode b_Prc_push 203 = .ok (.aload_n 0, 1) := by decide +kernel
theorem d_Prc_push_204 : decode b_Prc_push 204 = .ok (.getfield 13, 3) := by decide +kernel
theorem d_Prc_push_207 : decode b_Prc_push 207 = .ok (.getfield 196, 3) := by decide +kernel
theorem d_Prc_push_210 : decode b_Prc_push 210 = .ok (.invokevirtual 106, 3) := by decide +kernel
theorem d_Prc_push_213 : decode b_Prc_push 213 = .ok (.goto 22, 3) := by decide +kernel
theorem d_Prc_push_216 : decode b_Prc_push 216 = .ok (.aload_n 0, 1) := by decide +kernel
theorem d_Prc_push_217 : decode b_Prc_push 217 = .ok (.getfield 29, 3) := by decide +kernel
theorem d_Prc_push_220 : decode b_Prc_push 220 = .ok (.aload_n 0, 1) := by decide +kernel
theorem d_Prc_push_221 : decode b_Prc_push 221 = .ok (.getfield 22, 3) := by decide +kernel
theorem d_Prc_push_224 : decode b_Prc_push 224 = .ok (.invokevirtual 208, 3) := by decide +kernel
theorem d_Prc_push_227 : decode b_Prc_push 227 = .ok (.invokevirtual 106, 3) := by decide +kernel
theorem d_Prc_push_230 : decode b_Prc_push 230 = .ok (.goto 5, 3) := by decide +kernel
theorem d_Prc_push_233 : decode b_Prc_push 233 = .ok (.iconst 0, 1) := by decide +kernel
theorem d_Prc_push_234 : decode b_Prc_push 234 = .ok (.ireturn, 1) := by decide +kernel
theorem d_Prc_push_235 : decode b_Prc_push 235 = .ok (.iconst 1, 1) := by decide +kernel
theorem d_Prc_push_236 : decode b_Prc_push 236 = .ok (.ireturn, 1) := by decide +kernel
theorem d_Prc_pull_0 : decode b_Prc_pull 0 = .ok (.iload_n 1, 1) := by decide +kernel
theorem d_Prc_pull_1 : decode b_Prc_pull 1 = .ok (.lookupswitch 182 #[(40, 165), (43, 131), (104, 59), (122, 107), (171, 148), (250, 83)], 59) := by decide +kernel
theorem d_Prc_pull_60 : decode b_Prc_pull 60 = .ok (.aload_n 0, 1) := by decide +kernel
theorem d_Prc_pull_61 : decode b_Prc_pull 61 = .ok (.getfield 13, 3) := by decide +kernel
theorem d_Prc_pull_64 : decode b_Prc_pull 64 = .ok (.aload_n 0, 1) := by decide +kernel
theorem d_Prc_pull_65 : decode b_Prc_pull 65 = .ok (.getfield 29, 3) := by decide +kernel
theorem d_Prc_pull_68 : decode b_Prc_pull 68 = .ok (.aload_n 0, 1) := by decide +kernel
theorem d_Prc_pull_69 : decode b_Prc_pull 69 = .ok (.getfield 13, 3) := by decide +kernel
theorem d_Prc_pull_72 : decode b_Prc_pull 72 = .ok (.invokevirtual 128, 3) := by decide +kernel
theorem d_Prc_pull_75 : decode b_Prc_pull 75 = .ok (.invokevirtual 211, 3) := by decide +kernel
theorem d_Prc_pull_78 : decode b_Prc_pull 78 = .ok (.invokevirtual 153, 3) := by decide +kernel
theorem d_Prc_pull_81 : decode b_Prc_pull 81 = .ok (.goto 104, 3) := by decide +kernel
theorem d_Prc_pull_84 : decode b_Prc_pull 84 = .ok (.aload_n 0, 1) := by decide +kernel
theorem d_Prc_pull_85 : decode b_Prc_pull 85 = .ok (.getfield 13, 3) := by decide +kernel
theorem d_Prc_pull_88 : decode b_Prc_pull 88 = .ok (.aload_n 0, 1) := by decide +kernel
theorem d_Prc_pull_89 : decode b_Prc_pull 89 = .ok (.getfield 29, 3) := by decide +kernel
theorem d_Prc_pull_92 : decode b_Prc_pull 92 = .ok (.aload_n 0, 1) := by decide +kernel
theorem d_Prc_pull_93 : decode b_Prc_pull 93 = .ok (.getfield 13, 3) := by decide +kernel
theorem d_Prc_pull_96 : decode b_Prc_pull 96 = .ok (.invokevirtual 171, 3) := by decide +kernel
theorem d_Prc_pull_99 : decode b_Prc_pull 99 = .ok (.invokevirtual 211, 3) := by decide +kernel
theorem d_Prc_pull_102 : decode b_Prc_pull 102 = .ok (.invokevirtual 174, 3) := by decide +kernel
theorem d_Prc_pull_105 : decode b_Prc_pull 105 = .ok (.goto 80, 3) := by decide +kernel
theorem d_Prc_pull_108 : decode b_Prc_pull 108 = .ok (.aload_n 0, 1) := by decide +kernel
theorem d_Prc_pull_109 : decode b_Prc_pull 109 = .ok (.getfield 13, 3) := by decide +kernel
theorem d_Prc_pull_112 : decode b_Prc_pull 112 = .ok (.aload_n 0, 1) := by decide +kernel
theorem d_Prc_pull_113 : decode b_Prc_pull 113 = .ok (.getfield 29, 3) := by decide +kernel
theorem d_Prc_pull_116 : decode b_Prc_pull 116 = .ok (.aload_n 0, 1) := by decide +kernel
theorem d_Prc_pull_117 : decode b_Prc_pull 117 = .ok (.getfield 13, 3) := by decide +kernel
theorem d_Prc_pull_120 : decode b_Prc_pull 120 = .ok (.invokevirtual 171, 3) := by decide +kernel
theorem d_Prc_pull_123 : decode b_Prc_pull 123 = .ok (.invokevirtual 211, 3) := by decide +kernel
theorem d_Prc_pull_126 : decode b_Prc_pull 126 = .ok (.invokevirtual 177, 3) := by decide +kernel
theorem d_Prc_pull_129 : decode b_Prc_pull 129 = .ok (.goto 56, 3) := by decide +kernel
theorem d_Prc_pull_132 : decode b_Prc_pull 132 = .ok (.aload_n 0, 1) := by decide +kernel
theorem d_Prc_pull_133 : decode b_Prc_pull 133 = .ok (.getfield 13, 3) := by decide +kernel
theorem d_Prc_pull_136 : decode b_Prc_pull 136 = .ok (.aload_n 0, 1) := by decide +kernel
theorem d_Prc_pull_137 : decode b_Prc_pull 137 = .ok (.getfield 29, 3) := by decide +kernel
theorem d_Prc_pull_140 : decode b_Prc_pull 140 = .ok (.invokevirtual 214, 3) := by decide +kernel
theorem d_Prc_pull_143 : decode b_Prc_pull 143 = .ok (.invokevirtual 193, 3) := by decide +kernel
theorem d_Prc_pull_146 : decode b_Prc_pull 146 = .ok (.goto 39, 3) := by decide +kernel
theorem d_Prc_pull_149 : decode b_Prc_pull 149 = .ok (.aload_n 0, 1) := by decide +kernel
theorem d_Prc_pull_150 : decode b_Prc_pull 150 = .ok (.getfield 13, 3) := by decide +kernel
theorem d_Prc_pull_153 : decode b_Prc_pull 153 = .ok (.aload_n 0, 1) := by decide +kernel
theorem d_Prc_pull_154 : decode b_Prc_pull 154 = .ok (.getfield 29, 3) := by decide +kernel
theorem d_Prc_pull_157 : decode b_Prc_pull 157 = .ok (.invokevirtual 217, 3) := by decide +kernel
theorem d_Prc_pull_160 : decode b_Prc_pull 160 = .ok (.invokevirtual 220, 3) := by decide +kernel
theorem d_Prc_pull_163 : decode b_Prc_pull 163 = .ok (.goto 22, 3) := by decide +kernel
theorem d_Prc_pull_166 : decode b_Prc_pull 166 = .ok (.aload_n 0, 1) := by decide +kernel
theorem d_Prc_pull_167 : decode b_Prc_pull 167 = .ok (.getfield 13, 3) := by decide +kernel
theorem d_Prc_pull_170 : decode b_Prc_pull 170 = .ok (.aload_n 0, 1) := by decide +kernel
theorem d_Prc_pull_171 : decode b_Prc_pull 171 = .ok (.getfield 29, 3) := by decide +kernel
theorem d_Prc_pull_174 : decode b_Prc_pull 174 = .ok (.invokevirtual 217, 3) := by decide +kernel
theorem d_Prc_pull_177 : decode b_Prc_pull 177 = .ok (.invokevirtual 223, 3) := by decide +kernel
theorem d_Prc_pull_180 : decode b_Prc_pull 180 = .ok (.goto 5, 3) := by decide +kernel
theorem d_Prc_pull_183 : decode b_Prc_pull 183 = .ok (.iconst 0, 1) := by decide +kernel
theorem d_Prc_pull_184 : decode b_Prc_pull 184 = .ok (.ireturn, 1) := by decide +kernel
theorem d_Prc_pull_185 : decode b_Prc_pull 185 = .ok (.iconst 1, 1) := by decide +kernel
theorem d_Prc_pull_186 : decode b_Prc_pull 186 = .ok (.ireturn, 1) := by decide +kernel
theorem d_Prc_branch_0 : decode b_Prc_branch 0 = .ok (.iload_n 1, 1) := by decide +kernel
theorem d_Prc_branch_1 : decode b_Prc_branch 1 = .ok (.sipush 130, 3) := by decide +kernel
theorem d_Prc_branch_4 : decode b_Prc_branch 4 = .ok (.if_icmp .ne 29, 3) := by decide +kernel
theorem d_Prc_branch_7 : decode b_Prc_branch 7 = .ok (.aload_n 0, 1) := by decide +kernel
theorem d_Prc_branch_8 : decode b_Prc_branch 8 = .ok (.getfield 22, 3) := by decide +kernel
theorem d_Prc_branch_11 : decode b_Prc_branch 11 = .ok (.invokevirtual 208, 3) := by decide +kernel
theorem d_Prc_branch_14 : decode b_Prc_branch 14 = .ok (.istore_n 2, 1) := by decide +kernel
theorem d_Prc_branch_15 : decode b_Prc_branch 15 = .ok (.aload_n 0, 1) := by decide +kernel
theorem d_Prc_branch_16 : decode b_Prc_branch 16 = .ok (.getfield 13, 3) := by decide +kernel
theorem d_Prc_branch_19 : decode b_Prc_branch 19 = .ok (.aload_n 0, 1) := by decide +kernel
theorem d_Prc_branch_20 : decode b_Prc_branch 20 = .ok (.getfield 13, 3) := by decide +kernel
theorem d_Prc_branch_23 : decode b_Prc_branch 23 = .ok (.getfield 103, 3) := by decide +kernel
theorem d_Prc_branch_26 : decode b_Prc_branch 26 = .ok (.iload_n 2, 1) := by decide +kernel
theorem d_Prc_branch_27 : decode b_Prc_branch 27 = .ok (.iadd, 1) := by decide +kernel
theorem d_Prc_branch_28 : decode b_Prc_branch 28 = .ok (.invokevirtual 226, 3) := by decide +kernel
theorem d_Prc_branch_31 : decode b_Prc_branch 31 = .ok (.iconst 1, 1) := by decide +kernel
theorem d_Prc_branch_32 : decode b_Prc_branch 32 = .ok (.ireturn, 1) := by decide +kernel
theorem d_Prc_branch_33 : decode b_Prc_branch 33 = .ok (.iload_n 1, 1) := by decide +kernel
theorem d_Prc_branch_34 : decode b_Prc_branch 34 = .ok (.sipush 128, 3) := by decide +kernel
theorem d_Prc_branch_37 : decode b_Prc_branch 37 = .ok (.if_icmp .ne 7, 3) := by decide +kernel
theorem d_Prc_branch_40 : decode b_Prc_branch 40 = .ok (.iconst 1, 1) := by decide +kernel
theorem d_Prc_branch_41 : decode b_Prc_branch 41 = .ok (.goto 4, 3) := by decide +kernel
theorem d_Prc_branch_44 : decode b_Prc_branch 44 = .ok (.iconst 0, 1) := by decide +kernel
theorem d_Prc_branch_45 : decode b_Prc_branch 45 = .ok (.istore_n 2, 1) := by decide +kernel
theorem d_Prc_branch_46 : decode b_Prc_branch 46 = .ok (.iload_n 2, 1) := by decide +kernel
theorem d_Prc_branch_47 : decode b_Prc_branch 47 = .ok (.ifCond .ne 14, 3) := by decide +kernel
theorem d_Prc_branch_50 : decode b_Prc_branch 50 = .ok (.iload_n 1, 1) := by decide +kernel
theorem d_Prc_branch_51 : decode b_Prc_branch 51 = .ok (.bipush 31, 2) := by decide +kernel
theorem d_Prc_branch_53 : decode b_Prc_branch 53 = .ok (.iand, 1) := by decide +kernel
theorem d_Prc_branch_54 : decode b_Prc_branch 54 = .ok (.bipush 16, 2) := by decide +kernel
theorem d_Prc_branch_56 : decode b_Prc_branch 56 = .ok (.if_icmp .eq 5, 3) := by decide +kernel
theorem d_Prc_branch_59 : decode b_Prc_branch 59 = .ok (.iconst 0, 1) := by decide +kernel
theorem d_Prc_branch_60 : decode b_Prc_branch 60 = .ok (.ireturn, 1) := by decide +kernel
theorem d_Prc_branch_61 : decode b_Prc_branch 61 = .ok (.aload_n 0, 1) := by decide +kernel
theorem d_Prc_branch_62 : decode b_Prc_branch 62 = .ok (.getfield 22, 3) := by decide +kernel
theorem d_Prc_branch_65 : decode b_Prc_branch 65 = .ok (.invokevirtual 54, 3) := by decide +kernel
theorem d_Prc_branch_68 : decode b_Prc_branch 68 = .ok (.i2b, 1) := by decide +kernel
theorem d_Prc_branch_69 : decode b_Prc_branch 69 = .ok (.istore_n 3, 1) := by decide +kernel
theorem d_Prc_branch_70 : decode b_Prc_branch 70 = .ok (.iload_n 2, 1) := by decide +kernel
theorem d_Prc_branch_71 : decode b_Prc_branch 71 = .ok (.ifCond .ne 33, 3) := by decide +kernel
theorem d_Prc_branch_74 : decode b_Prc_branch 74 = .ok (.aload_n 0, 1) := by decide +kernel
theorem d_Prc_branch_75 : decode b_Prc_branch 75 = .ok (.getfield 13, 3) := by decide +kernel
theorem d_Prc_branch_78 : decode b_Prc_branch 78 = .ok (.getstatic 229, 3) := by decide +kernel
theorem d_Prc_branch_81 : decode b_Prc_branch 81 = .ok (.iload_n 1, 1) := by decide +kernel
theorem d_Prc_branch_82 : decode b_Prc_branch 82 = .ok (.bipush 6, 2) := by decide +kernel
theorem d_Prc_branch_84 : decode b_Prc_branch 84 = .ok (.ishr, 1) := by decide +kernel
theorem d_Prc_branch_85 : decode b_Prc_branch 85 = .ok (.iaload, 1) := by decide +kernel
theorem d_Prc_branch_86 : decode b_Prc_branch 86 = .ok (.invokevirtual 50, 3) := by decide +kernel
theorem d_Prc_branch_89 : decode b_Prc_branch 89 = .ok (.iload_n 1, 1) := by decide +kernel
theorem d_Prc_branch_90 : decode b_Prc_branch 90 = .ok (.bipush 32, 2) := by decide +kernel
theorem d_Prc_branch_92 : decode b_Prc_branch 92 = .ok (.iand, 1) := by decide +kernel
theorem d_Prc_branch_93 : decode b_Prc_branch 93 = .ok (.ifCond .eq 7, 3) := by decide +kernel
theorem d_Prc_branch_96 : decode b_Prc_branch 96 = .ok (.iconst 1, 1) := by decide +kernel
theorem d_Prc_branch_97 : decode b_Prc_branch 97 = .ok (.goto 4, 3) := by decide +kernel
theorem d_Prc_branch_100 : decode b_Prc_branch 100 = .ok (.iconst 0, 1) := by decide +kernel
theorem d_Prc_branch_101 : decode b_Prc_branch 101 = .ok (.if_icmp .ne 19, 3) := by decide +kernel
theorem d_Prc_branch_104 : decode b_Prc_branch 104 = .ok (.aload_n 0, 1) := by decide +kernel
theorem d_Prc_branch_105 : decode b_Prc_branch 105 = .ok (.getfield 13, 3) := by decide +kernel
theorem d_Prc_branch_108 : decode b_Prc_branch 108 = .ok (.aload_n 0, 1) := by decide +kernel
theorem d_Prc_branch_109 : decode b_Prc_branch 109 = .ok (.getfield 13, 3) := by decide +kernel
theorem d_Prc_branch_112 : decode b_Prc_branch 112 = .ok (.getfield 103, 3) := by decide +kernel
theorem d_Prc_branch_115 : decode b_Prc_branch 115 = .ok (.iload_n 3, 1) := by decide +kernel
theorem d_Prc_branch_116 : decode b_Prc_branch 116 = .ok (.iadd, 1) := by decide +kernel
theorem d_Prc_branch_117 : decode b_Prc_branch 117 = .ok (.invokevirtual 226, 3) := by decide +kernel
theorem d_Prc_branch_120 : decode b_Prc_branch 120 = .ok (.iconst 1, 1) := by decide +kernel
theorem d_Prc_branch_121 : decode b_Prc_branch 121 = .ok (.ireturn, 1) := by decide +kernel
theorem d_Prc_jump_0 : decode b_Prc_jump 0 = .ok (.iload_n 1, 1) := by decide +kernel
theorem d_Prc_jump_1 : decode b_Prc_jump 1 = .ok (.lookupswitch 288 #[(32, 101), (34, 139), (64, 243), (76, 67), (92, 84), (96, 191), (107, 210)], 67) := by decide +kernel
theorem d_Prc_jump_68 : decode b_Prc_jump 68 = .ok (.aload_n 0, 1) := by decide +kernel
theorem d_Prc_jump_69 : decode b_Prc_jump 69 = .ok (.getfield 13, 3) := by decide +kernel
theorem d_Prc_jump_72 : decode b_Prc_jump 72 = .ok (.aload_n 0, 1) := by decide +kernel
theorem d_Prc_jump_73 : decode b_Prc_jump 73 = .ok (.getfield 22, 3) := by decide +kernel
theorem d_Prc_jump_76 : decode b_Prc_jump 76 = .ok (.invokevirtual 208, 3) := by decide +kernel
theorem d_Prc_jump_79 : decode b_Prc_jump 79 = .ok (.invokevirtual 226, 3) := by decide +kernel
theorem d_Prc_jump_82 : decode b_Prc_jump 82 = .ok (.goto 209, 3) := by decide +kernel
theorem d_Prc_jump_85 : decode b_Prc_jump 85 = .ok (.aload_n 0, 1) := by decide +kernel
theorem d_Prc_jump_86 : decode b_Prc_jump 86 = .ok (.getfield 13, 3) := by decide +kernel
theorem d_Prc_jump_89 : decode b_Prc_jump 89 = .ok (.aload_n 0, 1) := by decide +kernel
theorem d_Prc_jump_90 : decode b_Prc_jump 90 = .ok (.getfield 22, 3) := by decide +kernel
theorem d_Prc_jump_93 : decode b_Prc_jump 93 = .ok (.invokevirtual 233, 3) := by decide +kernel
theorem d_Prc_jump_96 : decode b_Prc_jump 96 = .ok (.invokevirtual 236, 3) := by decide +kernel
theorem d_Prc_jump_99 : decode b_Prc_jump 99 = .ok (.goto 192, 3) := by decide +kernel
theorem d_Prc_jump_102 : decode b_Prc_jump 102 = .ok (.aload_n 0, 1) := by decide +kernel
theorem d_Prc_jump_103 : decode b_Prc_jump 103 = .ok (.getfield 22, 3) := by decide +kernel
theorem d_Prc_jump_106 : decode b_Prc_jump 106 = .ok (.invokevirtual 208, 3) := by decide +kernel
theorem d_Prc_jump_109 : decode b_Prc_jump 109 = .ok (.istore_n 2, 1) := by decide +kernel
theorem d_Prc_jump_110 : decode b_Prc_jump 110 = .ok (.aload_n 0, 1) := by decide +kernel
theorem d_Prc_jump_111 : decode b_Prc_jump 111 = .ok (.getfield 29, 3) := by decide +kernel
theorem d_Prc_jump_114 : decode b_Prc_jump 114 = .ok (.aload_n 0, 1) := by decide +kernel
theorem d_Prc_jump_115 : decode b_Prc_jump 115 = .ok (.getfield 13, 3) := by decide +kernel
theorem d_Prc_jump_118 : decode b_Prc_jump 118 = .ok (.getfield 103, 3) := by decide +kernel
theorem d_Prc_jump_121 : decode b_Prc_jump 121 = .ok (.iconst 1, 1) := by decide +kernel
theorem d_Prc_jump_122 : decode b_Prc_jump 122 = .ok (.isub, 1) := by decide +kernel
theorem d_Prc_jump_123 : decode b_Prc_jump 123 = .ok (.ldc 239, 2) := by decide +kernel
theorem d_Prc_jump_125 : decode b_Prc_jump 125 = .ok (.iand, 1) := by decide +kernel
theorem d_Prc_jump_126 : decode b_Prc_jump 126 = .ok (.invokevirtual 106, 3) := by decide +kernel
theorem d_Prc_jump_129 : decode b_Prc_jump 129 = .ok (.aload_n 0, 1) := by decide +kernel
theorem d_Prc_jump_130 : decode b_Prc_jump 130 = .ok (.getfield 13, 3) := by decide +kernel
theorem d_Prc_jump_133 : decode b_Prc_jump 133 = .ok (.iload_n 2, 1) := by decide +kernel
theorem d_Prc_jump_134 : decode b_Prc_jump 134 = .ok (.invokevirtual 226, 3) := by decide +kernel
theorem d_Prc_jump_137 : decode b_Prc_jump 137 = .ok (.goto 154, 3) := by decide +kernel
theorem d_Prc_jump_140 : decode b_Prc_jump 140 = .ok (.aload_n 0, 1) := by decide +kernel
theorem d_Prc_jump_141 : decode b_Prc_jump 141 = .ok (.getfield 22, 3) := by decide +kernel
theorem d_Prc_jump_144 : decode b_Prc_jump 144 = .ok (.invokevirtual 233, 3) := by decide +kernel
theorem d_Prc_jump_147 : decode b_Prc_jump 147 = .ok (.istore_n 2, 1) := by decide +kernel
theorem d_Prc_jump_148 : decode b_Prc_jump 148 = .ok (.aload_n 0, 1) := by decide +kernel
theorem d_Prc_jump_149 : decode b_Prc_jump 149 = .ok (.getfield 29, 3) := by decide +kernel
theorem d_Prc_jump_152 : decode b_Prc_jump 152 = .ok (.aload_n 0, 1) := by decide +kernel
theorem d_Prc_jump_153 : decode b_Prc_jump 153 = .ok (.getfield 13, 3) := by decide +kernel
theorem d_Prc_jump_156 : decode b_Prc_jump 156 = .ok (.getfield 97, 3) := by decide +kernel
theorem d_Prc_jump_159 : decode b_Prc_jump 159 = .ok (.invokevirtual 100, 3) := by decide +kernel
theorem d_Prc_jump_162 : decode b_Prc_jump 162 = .ok (.aload_n 0, 1) := by decide +kernel
theorem d_Prc_jump_163 : decode b_Prc_jump 163 = .ok (.getfield 29, 3) := by decide +kernel
theorem d_Prc_jump_166 : decode b_Prc_jump 166 = .ok (.aload_n 0, 1) := by decide +kernel
theorem d_Prc_jump_167 : decode b_Prc_jump 167 = .ok (.getfield 13, 3) := by decide +kernel
theorem d_Prc_jump_170 : decode b_Prc_jump 170 = .ok (.getfield 103, 3) := by decide +kernel
theorem d_Prc_jump_173 : decode b_Prc_jump 173 = .ok (.iconst 1, 1) := by decide +kernel
theorem d_Prc_jump_174 : decode b_Prc_jump 174 = .ok (.isub, 1) := by decide +kernel
theorem d_Prc_jump_175 : decode b_Prc_jump 175 = .ok (.ldc 239, 2) := by decide +kernel
theorem d_Prc_jump_177 : decode b_Prc_jump 177 = .ok (.iand, 1) := by decide +kernel
theorem d_Prc_jump_178 : decode b_Prc_jump 178 = .ok (.invokevirtual 106, 3) := by decide +kernel
theorem d_Prc_jump_181 : decode b_Prc_jump 181 = .ok (.aload_n 0, 1) := by decide +kernel
theorem d_Prc_jump_182 : decode b_Prc_jump 182 = .ok (.getfield 13, 3) := by decide +kernel
theorem d_Prc_jump_185 : decode b_Prc_jump 185 = .ok (.iload_n 2, 1) := by decide +kernel
theorem d_Prc_jump_186 : decode b_Prc_jump 186 = .ok (.invokevirtual 236, 3) := by decide +kernel
theorem d_Prc_jump_189 : decode b_Prc_jump 189 = .ok (.goto 102, 3) := by decide +kernel
theorem d_Prc_jump_192 : decode b_Prc_jump 192 = .ok (.aload_n 0, 1) := by decide +kernel
theorem d_Prc_jump_193 : decode b_Prc_jump 193 = .ok (.getfield 13, 3) := by decide +kernel
theorem d_Prc_jump_196 : decode b_Prc_jump 196 = .ok (.aload_n 0, 1) := by decide +kernel
theorem d_Prc_jump_197 : decode b_Prc_jump 197 = .ok (.getfield 29, 3) := by decide +kernel
theorem d_Prc_jump_200 : decode b_Prc_jump 200 = .ok (.invokevirtual 214, 3) := by decide +kernel
theorem d_Prc_jump_203 : decode b_Prc_jump 203 = .ok (.iconst 1, 1) := by decide +kernel
theorem d_Prc_jump_204 : decode b_Prc_jump 204 = .ok (.iadd, 1) := by decide +kernel
theorem d_Prc_jump_205 : decode b_Prc_jump 205 = .ok (.invokevirtual 226, 3) := by decide +kernel
theorem d_Prc_jump_208 : decode b_Prc_jump 208 = .ok (.goto 83, 3) := by decide +kernel
theorem d_Prc_jump_211 : decode b_Prc_jump 211 = .ok (.aload_n 0, 1) := by decide +kernel
theorem d_Prc_jump_212 : decode b_Prc_jump 212 = .ok (.getfield 13, 3) := by decide +kernel
theorem d_Prc_jump_215 : decode b_Prc_jump 215 = .ok (.aload_n 0, 1) := by decide +kernel
theorem d_Prc_jump_216 : decode b_Prc_jump 216 = .ok (.getfield 29, 3) := by decide +kernel
theorem d_Prc_jump_219 : decode b_Prc_jump 219 = .ok (.invokevirtual 214, 3) := by decide +kernel
theorem d_Prc_jump_222 : decode b_Prc_jump 222 = .ok (.iconst 1, 1) := by decide +kernel
theorem d_Prc_jump_223 : decode b_Prc_jump 223 = .ok (.iadd, 1) := by decide +kernel
theorem d_Prc_jump_224 : decode b_Prc_jump 224 = .ok (.invokevirtual 226, 3) := by decide +kernel
theorem d_Prc_jump_227 : decode b_Prc_jump 227 = .ok (.aload_n 0, 1) := by decide +kernel
theorem d_Prc_jump_228 : decode b_Prc_jump 228 = .ok (.getfield 13, 3) := by decide +kernel
theorem d_Prc_jump_231 : decode b_Prc_jump 231 = .ok (.aload_n 0, 1) := by decide +kernel
theorem d_Prc_jump_232 : decode b_Prc_jump 232 = .ok (.getfield 29, 3) := by decide +kernel
theorem d_Prc_jump_235 : decode b_Prc_jump 235 = .ok (.invokevirtual 217, 3) := by decide +kernel
theorem d_Prc_jump_238 : decode b_Prc_jump 238 = .ok (.putfield 97, 3) := by decide +kernel
theorem d_Prc_jump_241 : decode b_Prc_jump 241 = .ok (.goto 50, 3) := by decide +kernel
theorem d_Prc_jump_244 : decode b_Prc_jump 244 = .ok (.aload_n 0, 1) := by decide +kernel
theorem d_Prc_jump_245 : decode b_Prc_jump 245 = .ok (.getfield 13, 3) := by decide +kernel
theorem d_Prc_jump_248 : decode b_Prc_jump 248 = .ok (.aload_n 0, 1) := by decide +kernel
theorem d_Prc_jump_249 : decode b_Prc_jump 249 = .ok (.getfield 29, 3) := by decide +kernel
theorem d_Prc_jump_252 : decode b_Prc_jump 252 = .ok (.invokevirtual 217, 3) := by decide +kernel
theorem d_Prc_jump_255 : decode b_Prc_jump 255 = .ok (.invokevirtual 223, 3) := by decide +kernel
theorem d_Prc_jump_258 : decode b_Prc_jump 258 = .ok (.aload_n 0, 1) := by decide +kernel
theorem d_Prc_jump_259 : decode b_Prc_jump 259 = .ok (.getfield 13, 3) := by decide +kernel
theorem d_Prc_jump_262 : decode b_Prc_jump 262 = .ok (.aload_n 0, 1) := by decide +kernel
theorem d_Prc_jump_263 : decode b_Prc_jump 263 = .ok (.getfield 29, 3) := by decide +kernel
theorem d_Prc_jump_266 : decode b_Prc_jump 266 = .ok (.invokevirtual 214, 3) := by decide +kernel
theorem d_Prc_jump_269 : decode b_Prc_jump 269 = .ok (.invokevirtual 226, 3) := by decide +kernel
theorem d_Prc_jump_272 : decode b_Prc_jump 272 = .ok (.aload_n 0, 1) := by decide +kernel
theorem d_Prc_jump_273 : decode b_Prc_jump 273 = .ok (.getfield 13, 3) := by decide +kernel
theorem d_Prc_jump_276 : decode b_Prc_jump 276 = .ok (.aload_n 0, 1) := by decide +kernel
theorem d_Prc_jump_277 : decode b_Prc_jump 277 = .ok (.getfield 29, 3) := by decide +kernel
theorem d_Prc_jump_280 : decode b_Prc_jump 280 = .ok (.invokevirtual 217, 3) := by decide +kernel
theorem d_Prc_jump_283 : decode b_Prc_jump 283 = .ok (.putfield 97, 3) := by decide +kernel
theorem d_Prc_jump_286 : decode b_Prc_jump 286 = .ok (.goto 5, 3) := by decide +kernel
theorem d_Prc_jump_289 : decode b_Prc_jump 289 = .ok (.iconst 0, 1) := by decide +kernel
theorem d_Prc_jump_290 : decode b_Prc_jump 290 = .ok (.ireturn, 1) := by decide +kernel
theorem d_Prc_jump_291 : decode b_Prc_jump 291 = .ok (.iconst 1, 1) := by decide +kernel
theorem d_Prc_jump_292 : decode b_Prc_jump 292 = .ok (.ireturn, 1) := by decide +kernel
theorem d_Prc_changeFlags_0 : decode b_Prc_changeFlags 0 = .ok (.iload_n 1, 1) := by decide +kernel
theorem d_Prc_changeFlags_1 : decode b_Prc_changeFlags 1 = .ok (.lookupswitch 233 #[(24, 143), (56, 155), (88, 167), (120, 179), (184, 217), (194, 116), (216, 191), (226, 91), (234, 230), (248, 204)], 91) := by decide +kernel
theorem d_Prc_changeFlags_92 : decode b_Prc_changeFlags 92 = .ok (.aload_n 0, 1) := by decide +kernel
theorem d_Prc_changeFlags_93 : decode b_Prc_changeFlags 93 = .ok (.getfield 13, 3) := by decide +kernel
theorem d_Prc_changeFlags_96 : decode b_Prc_changeFlags 96 = .ok (.aload_n 0, 1) := by decide +kernel
theorem d_Prc_changeFlags_97 : decode b_Prc_changeFlags 97 = .ok (.getfield 13, 3) := by decide +kernel
theorem d_Prc_changeFlags_100 : decode b_Prc_changeFlags 100 = .ok (.getfield 109, 3) := by decide +kernel
theorem d_Prc_changeFlags_103 : decode b_Prc_changeFlags 103 = .ok (.aload_n 0, 1) := by decide +kernel
theorem d_Prc_changeFlags_104 : decode b_Prc_changeFlags 104 = .ok (.getfield 22, 3) := by decide +kernel
theorem d_Prc_changeFlags_107 : decode b_Prc_changeFlags 107 = .ok (.invokevirtual 54, 3) := by decide +kernel
theorem d_Prc_changeFlags_110 : decode b_Prc_changeFlags 110 = .ok (.ior, 1) := by decide +kernel
theorem d_Prc_changeFlags_111 : decode b_Prc_changeFlags 111 = .ok (.invokevirtual 223, 3) := by decide +kernel
theorem d_Prc_changeFlags_114 : decode b_Prc_changeFlags 114 = .ok (.goto 122, 3) := by decide +kernel
theorem d_Prc_changeFlags_117 : decode b_Prc_changeFlags 117 = .ok (.aload_n 0, 1) := by decide +kernel
theorem d_Prc_changeFlags_118 : decode b_Prc_changeFlags 118 = .ok (.getfield 13, 3) := by decide +kernel
theorem d_Prc_changeFlags_121 : decode b_Prc_changeFlags 121 = .ok (.aload_n 0, 1) := by decide +kernel
theorem d_Prc_changeFlags_122 : decode b_Prc_changeFlags 122 = .ok (.getfield 13, 3) := by decide +kernel
theorem d_Prc_changeFlags_125 : decode b_Prc_changeFlags 125 = .ok (.getfield 109, 3) := by decide +kernel
theorem d_Prc_changeFlags_128 : decode b_Prc_changeFlags 128 = .ok (.aload_n 0, 1) := by decide +kernel
theorem d_Prc_changeFlags_129 : decode b_Prc_changeFlags 129 = .ok (.getfield 22, 3) := by decide +kernel
theorem d_Prc_changeFlags_132 : decode b_Prc_changeFlags 132 = .ok (.invokevirtual 54, 3) := by decide +kernel
theorem d_Prc_changeFlags_135 : decode b_Prc_changeFlags 135 = .ok (.iconst (-1), 1) := by decide +kernel
theorem d_Prc_changeFlags_136 : decode b_Prc_changeFlags 136 = .ok (.ixor, 1) := by decide +kernel
theorem d_Prc_changeFlags_137 : decode b_Prc_changeFlags 137 = .ok (.iand, 1) := by decide +kernel
theorem d_Prc_changeFlags_138 : decode b_Prc_changeFlags 138 = .ok (.invokevirtual 223, 3) := by decide +kernel
theorem d_Prc_changeFlags_141 : decode b_Prc_changeFlags 141 = .ok (.goto 95, 3) := by decide +kernel
theorem d_Prc_changeFlags_144 : decode b_Prc_changeFlags 144 = .ok (.aload_n 0, 1) := by decide +kernel
theorem d_Prc_changeFlags_145 : decode b_Prc_changeFlags 145 = .ok (.getfield 13, 3) := by decide +kernel
theorem d_Prc_changeFlags_148 : decode b_Prc_changeFlags 148 = .ok (.iconst 1, 1) := by decide +kernel
theorem d_Prc_changeFlags_149 : decode b_Prc_changeFlags 149 = .ok (.iconst 0, 1) := by decide +kernel
theorem d_Prc_changeFlags_150 : decode b_Prc_changeFlags 150 = .ok (.invokevirtual 112, 3) := by decide +kernel
theorem d_Prc_changeFlags_153 : decode b_Prc_changeFlags 153 = .ok (.goto 83, 3) := by decide +kernel
theorem d_Prc_changeFlags_156 : decode b_Prc_changeFlags 156 = .ok (.aload_n 0, 1) := by decide +kernel
theorem d_Prc_changeFlags_157 : decode b_Prc_changeFlags 157 = .ok (.getfield 13, 3) := by decide +kernel
theorem d_Prc_changeFlags_160 : decode b_Prc_changeFlags 160 = .ok (.iconst 1, 1) := by decide +kernel
theorem d_Prc_changeFlags_161 : decode b_Prc_changeFlags 161 = .ok (.iconst 1, 1) := by decide +kernel
theorem d_Prc_changeFlags_162 : decode b_Prc_changeFlags 162 = .ok (.invokevirtual 112, 3) := by decide +kernel
theorem d_Prc_changeFlags_165 : decode b_Prc_changeFlags 165 = .ok (.goto 71, 3) := by decide +kernel
theorem d_Prc_changeFlags_168 : decode b_Prc_changeFlags 168 = .ok (.aload_n 0, 1) := by decide +kernel
theorem d_Prc_changeFlags_169 : decode b_Prc_changeFlags 169 = .ok (.getfield 13, 3) := by decide +kernel
theorem d_Prc_changeFlags_172 : decode b_Prc_changeFlags 172 = .ok (.iconst 4, 1) := by decide +kernel
theorem d_Prc_changeFlags_173 : decode b_Prc_changeFlags 173 = .ok (.iconst 0, 1) := by decide +kernel
theorem d_Prc_changeFlags_174 : decode b_Prc_changeFlags 174 = .ok (.invokevirtual 112, 3) := by decide +kernel
theorem d_Prc_changeFlags_177 : decode b_Prc_changeFlags 177 = .ok (.goto 59, 3) := by decide +kernel
theorem d_Prc_changeFlags_180 : decode b_Prc_changeFlags 180 = .ok (.aload_n 0, 1) := by decide +kernel
theorem d_Prc_changeFlags_181 : decode b_Prc_changeFlags 181 = .ok (.getfield 13, 3) := by decide +kernel
theorem d_Prc_changeFlags_184 : decode b_Prc_changeFlags 184 = .ok (.iconst 4, 1) := by decide +kernel
theorem d_Prc_changeFlags_185 : decode b_Prc_changeFlags 185 = .ok (.iconst 1, 1) := by decide +kernel
theorem d_Prc_changeFlags_186 : decode b_Prc_changeFlags 186 = .ok (.invokevirtual 112, 3) := by decide +kernel
theorem d_Prc_changeFlags_189 : decode b_Prc_changeFlags 189 = .ok (.goto 47, 3) := by decide +kernel
theorem d_Prc_changeFlags_192 : decode b_Prc_changeFlags 192 = .ok (.aload_n 0, 1) := by decide +kernel
theorem d_Prc_changeFlags_193 : decode b_Prc_changeFlags 193 = .ok (.getfield 13, 3) := by decide +kernel
theorem d_Prc_changeFlags_196 : decode b_Prc_changeFlags 196 = .ok (.bipush 8, 2) := by decide +kernel
theorem d_Prc_changeFlags_198 : decode b_Prc_changeFlags 198 = .ok (.iconst 0, 1) := by decide +kernel
theorem d_Prc_changeFlags_199 : decode b_Prc_changeFlags 199 = .ok (.invokevirtual 112, 3) := by decide +kernel
theorem d_Prc_changeFlags_202 : decode b_Prc_changeFlags 202 = .ok (.goto 34, 3) := by decide +kernel
theorem d_Prc_changeFlags_205 : decode b_Prc_changeFlags 205 = .ok (.aload_n 0, 1) := by decide +kernel
theorem d_Prc_changeFlags_206 : decode b_Prc_changeFlags 206 = .ok (.getfield 13, 3) := by decide +kernel
theorem d_Prc_changeFlags_209 : decode b_Prc_changeFlags 209 = .ok (.bipush 8, 2) := by decide +kernel
theorem d_Prc_changeFlags_211 : decode b_Prc_changeFlags 211 = .ok (.iconst 1, 1) := by decide +kernel
theorem d_Prc_changeFlags_212 : decode b_Prc_changeFlags 212 = .ok (.invokevirtual 112, 3) := by decide +kernel
theorem d_Prc_changeFlags_215 : decode b_Prc_changeFlags 215 = .ok (.goto 21, 3) := by decide +kernel
theorem d_Prc_changeFlags_218 : decode b_Prc_changeFlags 218 = .ok (.aload_n 0, 1) := by decide +kernel
theorem d_Prc_changeFlags_219 : decode b_Prc_changeFlags 219 = .ok (.getfield 13, 3) := by decide +kernel
theorem d_Prc_changeFlags_222 : decode b_Prc_changeFlags 222 = .ok (.bipush 64, 2) := by decide +kernel
theorem d_Prc_changeFlags_224 : decode b_Prc_changeFlags 224 = .ok (.iconst 0, 1) := by decide +kernel
theorem d_Prc_changeFlags_225 : decode b_Prc_changeFlags 225 = .ok (.invokevirtual 112, 3) := by decide +kernel
theorem d_Prc_changeFlags_228 : decode b_Prc_changeFlags 228 = .ok (.goto 8, 3) := by decide +kernel
theorem d_Prc_changeFlags_231 : decode b_Prc_changeFlags 231 = .ok (.goto 5, 3) := by decide +kernel
theorem d_Prc_changeFlags_234 : decode b_Prc_changeFlags 234 = .ok (.iconst 0, 1) := by decide +kernel
theorem d_Prc_changeFlags_235 : decode b_Prc_changeFlags 235 = .ok (.ireturn, 1) := by decide +kernel
theorem d_Prc_changeFlags_236 : decode b_Prc_changeFlags 236 = .ok (.iconst 1, 1) := by decide +kernel
theorem d_Prc_changeFlags_237 : decode b_Prc_changeFlags 237 = .ok (.ireturn, 1) := by decide +kernel
theorem d_Prc_moveBlock_0 : decode b_Prc_moveBlock 0 = .ok (.iload_n 1, 1) := by decide +kernel
theorem d_Prc_moveBlock_1 : decode b_Prc_moveBlock 1 = .ok (.bipush 84, 2) := by decide +kernel
theorem d_Prc_moveBlock_3 : decode b_Prc_moveBlock 3 = .ok (.if_icmp .eq 11, 3) := by decide +kernel
theorem d_Prc_moveBlock_6 : decode b_Prc_moveBlock 6 = .ok (.iload_n 1, 1) := by decide +kernel
theorem d_Prc_moveBlock_7 : decode b_Prc_moveBlock 7 = .ok (.bipush 68, 2) := by decide +kernel
theorem d_Prc_moveBlock_9 : decode b_Prc_moveBlock 9 = .ok (.if_icmp .eq 5, 3) := by decide +kernel
theorem d_Prc_moveBlock_12 : decode b_Prc_moveBlock 12 = .ok (.iconst 0, 1) := by decide +kernel
theorem d_Prc_moveBlock_13 : decode b_Prc_moveBlock 13 = .ok (.ireturn, 1) := by decide +kernel
theorem d_Prc_moveBlock_14 : decode b_Prc_moveBlock 14 = .ok (.aload_n 0, 1) := by decide +kernel
theorem d_Prc_moveBlock_15 : decode b_Prc_moveBlock 15 = .ok (.getfield 13, 3) := by decide +kernel
theorem d_Prc_moveBlock_18 : decode b_Prc_moveBlock 18 = .ok (.getfield 103, 3) := by decide +kernel
theorem d_Prc_moveBlock_21 : decode b_Prc_moveBlock 21 = .ok (.iconst 1, 1) := by decide +kernel
theorem d_Prc_moveBlock_22 : decode b_Prc_moveBlock 22 = .ok (.isub, 1) := by decide +kernel
theorem d_Prc_moveBlock_23 : decode b_Prc_moveBlock 23 = .ok (.istore_n 2, 1) := by decide +kernel
theorem d_Prc_moveBlock_24 : decode b_Prc_moveBlock 24 = .ok (.aload_n 0, 1) := by decide +kernel
theorem d_Prc_moveBlock_25 : decode b_Prc_moveBlock 25 = .ok (.getfield 22, 3) := by decide +kernel
theorem d_Prc_moveBlock_28 : decode b_Prc_moveBlock 28 = .ok (.invokevirtual 54, 3) := by decide +kernel
theorem d_Prc_moveBlock_31 : decode b_Prc_moveBlock 31 = .ok (.istore_n 3, 1) := by decide +kernel
theorem d_Prc_moveBlock_32 : decode b_Prc_moveBlock 32 = .ok (.aload_n 0, 1) := by decide +kernel
theorem d_Prc_moveBlock_33 : decode b_Prc_moveBlock 33 = .ok (.getfield 22, 3) := by decide +kernel
theorem d_Prc_moveBlock_36 : decode b_Prc_moveBlock 36 = .ok (.invokevirtual 54, 3) := by decide +kernel
theorem d_Prc_moveBlock_39 : decode b_Prc_moveBlock 39 = .ok (.istore 4, 2) := by decide +kernel
theorem d_Prc_moveBlock_41 : decode b_Prc_moveBlock 41 = .ok (.iload_n 1, 1) := by decide +kernel
theorem d_Prc_moveBlock_42 : decode b_Prc_moveBlock 42 = .ok (.bipush 84, 2) := by decide +kernel
theorem d_Prc_moveBlock_44 : decode b_Prc_moveBlock 44 = .ok (.if_icmp .ne 7, 3) := by decide +kernel
theorem d_Prc_moveBlock_47 : decode b_Prc_moveBlock 47 = .ok (.iconst 1, 1) := by decide +kernel
theorem d_Prc_moveBlock_48 : decode b_Prc_moveBlock 48 = .ok (.goto 4, 3) := by decide +kernel
theorem d_Prc_moveBlock_51 : decode b_Prc_moveBlock 51 = .ok (.iconst (-1), 1) := by decide +kernel
theorem d_Prc_moveBlock_52 : decode b_Prc_moveBlock 52 = .ok (.istore 5, 2) := by decide +kernel
theorem d_Prc_moveBlock_54 : decode b_Prc_moveBlock 54 = .ok (.aload_n 0, 1) := by decide +kernel
theorem d_Prc_moveBlock_55 : decode b_Prc_moveBlock 55 = .ok (.getfield 13, 3) := by decide +kernel
theorem d_Prc_moveBlock_58 : decode b_Prc_moveBlock 58 = .ok (.iload_n 3, 1) := by decide +kernel
theorem d_Prc_moveBlock_59 : decode b_Prc_moveBlock 59 = .ok (.putfield 205, 3) := by decide +kernel
theorem d_Prc_moveBlock_62 : decode b_Prc_moveBlock 62 = .ok (.aload_n 0, 1) := by decide +kernel
theorem d_Prc_moveBlock_63 : decode b_Prc_moveBlock 63 = .ok (.getfield 7, 3) := by decide +kernel
theorem d_Prc_moveBlock_66 : decode b_Prc_moveBlock 66 = .ok (.iload_n 3, 1) := by decide +kernel
theorem d_Prc_moveBlock_67 : decode b_Prc_moveBlock 67 = .ok (.bipush 16, 2) := by decide +kernel
theorem d_Prc_moveBlock_69 : decode b_Prc_moveBlock 69 = .ok (.ishl, 1) := by decide +kernel
theorem d_Prc_moveBlock_70 : decode b_Prc_moveBlock 70 = .ok (.aload_n 0, 1) := by decide +kernel
theorem d_Prc_moveBlock_71 : decode b_Prc_moveBlock 71 = .ok (.getfield 13, 3) := by decide +kernel
theorem d_Prc_moveBlock_74 : decode b_Prc_moveBlock 74 = .ok (.getfield 183, 3) := by decide +kernel
theorem d_Prc_moveBlock_77 : decode b_Prc_moveBlock 77 = .ok (.ior, 1) := by decide +kernel
theorem d_Prc_moveBlock_78 : decode b_Prc_moveBlock 78 = .ok (.aload_n 0, 1) := by decide +kernel
theorem d_Prc_moveBlock_79 : decode b_Prc_moveBlock 79 = .ok (.getfield 7, 3) := by decide +kernel
theorem d_Prc_moveBlock_82 : decode b_Prc_moveBlock 82 = .ok (.iload 4, 2) := by decide +kernel
theorem d_Prc_moveBlock_84 : decode b_Prc_moveBlock 84 = .ok (.bipush 16, 2) := by decide +kernel
theorem d_Prc_moveBlock_86 : decode b_Prc_moveBlock 86 = .ok (.ishl, 1) := by decide +kernel
theorem d_Prc_moveBlock_87 : decode b_Prc_moveBlock 87 = .ok (.aload_n 0, 1) := by decide +kernel
theorem d_Prc_moveBlock_88 : decode b_Prc_moveBlock 88 = .ok (.getfield 13, 3) := by decide +kernel
theorem d_Prc_moveBlock_91 : decode b_Prc_moveBlock 91 = .ok (.getfield 180, 3) := by decide +kernel
theorem d_Prc_moveBlock_94 : decode b_Prc_moveBlock 94 = .ok (.ior, 1) := by decide +kernel
theorem d_Prc_moveBlock_95 : decode b_Prc_moveBlock 95 = .ok (.invokevirtual 240, 3) := by decide +kernel
theorem d_Prc_moveBlock_98 : decode b_Prc_moveBlock 98 = .ok (.invokevirtual 243, 3) := by decide +kernel
theorem d_Prc_moveBlock_101 : decode b_Prc_moveBlock 101 = .ok (.aload_n 0, 1) := by decide +kernel
theorem d_Prc_moveBlock_102 : decode b_Prc_moveBlock 102 = .ok (.getfield 13, 3) := by decide +kernel
theorem d_Prc_moveBlock_105 : decode b_Prc_moveBlock 105 = .ok (.aload_n 0, 1) := by decide +kernel
theorem d_Prc_moveBlock_106 : decode b_Prc_moveBlock 106 = .ok (.getfield 13, 3) := by decide +kernel
theorem d_Prc_moveBlock_109 : decode b_Prc_moveBlock 109 = .ok (.getfield 180, 3) := by decide +kernel
theorem d_Prc_moveBlock_112 : decode b_Prc_moveBlock 112 = .ok (.iload 5, 2) := by decide +kernel
theorem d_Prc_moveBlock_114 : decode b_Prc_moveBlock 114 = .ok (.iadd, 1) := by decide +kernel
theorem d_Prc_moveBlock_115 : decode b_Prc_moveBlock 115 = .ok (.aload_n 0, 1) := by decide +kernel
theorem d_Prc_moveBlock_116 : decode b_Prc_moveBlock 116 = .ok (.getfield 13, 3) := by decide +kernel
theorem d_Prc_moveBlock_119 : decode b_Prc_moveBlock 119 = .ok (.invokevirtual 247, 3) := by decide +kernel
theorem d_Prc_moveBlock_122 : decode b_Prc_moveBlock 122 = .ok (.iand, 1) := by decide +kernel
theorem d_Prc_moveBlock_123 : decode b_Prc_moveBlock 123 = .ok (.putfield 180, 3) := by decide +kernel
theorem d_Prc_moveBlock_126 : decode b_Prc_moveBlock 126 = .ok (.aload_n 0, 1) := by decide +kernel
theorem d_Prc_moveBlock_127 : decode b_Prc_moveBlock 127 = .ok (.getfield 13, 3) := by decide +kernel
theorem d_Prc_moveBlock_130 : decode b_Prc_moveBlock 130 = .ok (.aload_n 0, 1) := by decide +kernel
theorem d_Prc_moveBlock_131 : decode b_Prc_moveBlock 131 = .ok (.getfield 13, 3) := by decide +kernel
theorem d_Prc_moveBlock_134 : decode b_Prc_moveBlock 134 = .ok (.getfield 183, 3) := by decide +kernel
theorem d_Prc_moveBlock_137 : decode b_Prc_moveBlock 137 = .ok (.iload 5, 2) := by decide +kernel
theorem d_Prc_moveBlock_139 : decode b_Prc_moveBlock 139 = .ok (.iadd, 1) := by decide +kernel
theorem d_Prc_moveBlock_140 : decode b_Prc_moveBlock 140 = .ok (.aload_n 0, 1) := by decide +kernel
theorem d_Prc_moveBlock_141 : decode b_Prc_moveBlock 141 = .ok (.getfield 13, 3) := by decide +kernel
theorem d_Prc_moveBlock_144 : decode b_Prc_moveBlock 144 = .ok (.invokevirtual 247, 3) := by decide +kernel
theorem d_Prc_moveBlock_147 : decode b_Prc_moveBlock 147 = .ok (.iand, 1) := by decide +kernel
theorem d_Prc_moveBlock_148 : decode b_Prc_moveBlock 148 = .ok (.putfield 183, 3) := by decide +kernel
theorem d_Prc_moveBlock_151 : decode b_Prc_moveBlock 151 = .ok (.aload_n 0, 1) := by decide +kernel
theorem d_Prc_moveBlock_152 : decode b_Prc_moveBlock 152 = .ok (.getfield 13, 3) := by decide +kernel
theorem d_Prc_moveBlock_155 : decode b_Prc_moveBlock 155 = .ok (.getfield 135, 3) := by decide +kernel
theorem d_Prc_moveBlock_158 : decode b_Prc_moveBlock 158 = .ok (.ifCond .eq 11, 3) := by decide +kernel
theorem d_Prc_moveBlock_161 : decode b_Prc_moveBlock 161 = .ok (.aload_n 0, 1) := by decide +kernel
theorem d_Prc_moveBlock_162 : decode b_Prc_moveBlock 162 = .ok (.getfield 13, 3) := by decide +kernel
theorem d_Prc_moveBlock_165 : decode b_Prc_moveBlock 165 = .ok (.iload_n 2, 1) := by decide +kernel
theorem d_Prc_moveBlock_166 : decode b_Prc_moveBlock 166 = .ok (.invokevirtual 226, 3) := by decide +kernel
theorem d_Prc_moveBlock_169 : decode b_Prc_moveBlock 169 = .ok (.aload_n 0, 1) := by decide +kernel
theorem d_Prc_moveBlock_170 : decode b_Prc_moveBlock 170 = .ok (.getfield 13, 3) := by decide +kernel
theorem d_Prc_moveBlock_173 : decode b_Prc_moveBlock 173 = .ok (.aload_n 0, 1) := by decide +kernel
theorem d_Prc_moveBlock_174 : decode b_Prc_moveBlock 174 = .ok (.getfield 13, 3) := by decide +kernel
theorem d_Prc_moveBlock_177 : decode b_Prc_moveBlock 177 = .ok (.getfield 135, 3) := by decide +kernel
theorem d_Prc_moveBlock_180 : decode b_Prc_moveBlock 180 = .ok (.iconst 1, 1) := by decide +kernel
theorem d_Prc_moveBlock_181 : decode b_Prc_moveBlock 181 = .ok (.isub, 1) := by decide +kernel
theorem d_Prc_moveBlock_182 : decode b_Prc_moveBlock 182 = .ok (.ldc 239, 2) := by decide +kernel
theorem d_Prc_moveBlock_184 : decode b_Prc_moveBlock 184 = .ok (.iand, 1) := by decide +kernel
theorem d_Prc_moveBlock_185 : decode b_Prc_moveBlock 185 = .ok (.putfield 135, 3) := by decide +kernel
theorem d_Prc_moveBlock_188 : decode b_Prc_moveBlock 188 = .ok (.iconst 1, 1) := by decide +kernel
theorem d_Prc_moveBlock_189 : decode b_Prc_moveBlock 189 = .ok (.ireturn, 1) := by decide +kernel
