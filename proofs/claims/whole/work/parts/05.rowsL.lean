theorem dL_law_0 : decode code 0 = .ok (.new 7, 3) := by decide +kernel
theorem dL_law_3 : decode code 3 = .ok (.dup, 1) := by decide +kernel
theorem dL_law_4 : decode code 4 = .ok (.invokespecial 9, 3) := by decide +kernel
theorem dL_law_7 : decode code 7 = .ok (.astore_n 1, 1) := by decide +kernel
theorem dL_law_8 : decode code 8 = .ok (.new 10, 3) := by decide +kernel
theorem dL_law_11 : decode code 11 = .ok (.dup, 1) := by decide +kernel
theorem dL_law_12 : decode code 12 = .ok (.invokespecial 12, 3) := by decide +kernel
theorem dL_law_15 : decode code 15 = .ok (.astore_n 2, 1) := by decide +kernel
theorem dL_law_16 : decode code 16 = .ok (.iconst 0, 1) := by decide +kernel
theorem dL_law_17 : decode code 17 = .ok (.istore_n 3, 1) := by decide +kernel
theorem dL_law_18 : decode code 18 = .ok (.iload_n 3, 1) := by decide +kernel
theorem dL_law_19 : decode code 19 = .ok (.aload_n 0, 1) := by decide +kernel
theorem dL_law_20 : decode code 20 = .ok (.arraylength, 1) := by decide +kernel
theorem dL_law_21 : decode code 21 = .ok (.iconst 4, 1) := by decide +kernel
theorem dL_law_22 : decode code 22 = .ok (.isub, 1) := by decide +kernel
theorem dL_law_23 : decode code 23 = .ok (.if_icmp .gt 359, 3) := by decide +kernel
theorem dL_law_26 : decode code 26 = .ok (.aload_n 0, 1) := by decide +kernel
theorem dL_law_27 : decode code 27 = .ok (.iload_n 3, 1) := by decide +kernel
theorem dL_law_28 : decode code 28 = .ok (.iaload, 1) := by decide +kernel
theorem dL_law_29 : decode code 29 = .ok (.bipush 15, 2) := by decide +kernel
theorem dL_law_31 : decode code 31 = .ok (.iand, 1) := by decide +kernel
theorem dL_law_32 : decode code 32 = .ok (.tableswitch 344 0 10 #[60, 73, 106, 129, 172, 185, 208, 231, 255, 288, 321], 60) := by decide +kernel
theorem dL_law_92 : decode code 92 = .ok (.aload_n 1, 1) := by decide +kernel
theorem dL_law_93 : decode code 93 = .ok (.invokevirtual 13, 3) := by decide +kernel
theorem dL_law_96 : decode code 96 = .ok (.aload_n 2, 1) := by decide +kernel
theorem dL_law_97 : decode code 97 = .ok (.invokevirtual 17, 3) := by decide +kernel
theorem dL_law_100 : decode code 100 = .ok (.if_icmp .eq 276, 3) := by decide +kernel
theorem dL_law_103 : decode code 103 = .ok (.iconst 0, 1) := by decide +kernel
theorem dL_law_104 : decode code 104 = .ok (.ireturn, 1) := by decide +kernel
theorem dL_law_105 : decode code 105 = .ok (.aload_n 1, 1) := by decide +kernel
theorem dL_law_106 : decode code 106 = .ok (.aload_n 0, 1) := by decide +kernel
theorem dL_law_107 : decode code 107 = .ok (.iload_n 3, 1) := by decide +kernel
theorem dL_law_108 : decode code 108 = .ok (.iconst 1, 1) := by decide +kernel
theorem dL_law_109 : decode code 109 = .ok (.iadd, 1) := by decide +kernel
theorem dL_law_110 : decode code 110 = .ok (.iaload, 1) := by decide +kernel
theorem dL_law_111 : decode code 111 = .ok (.aload_n 0, 1) := by decide +kernel
theorem dL_law_112 : decode code 112 = .ok (.iload_n 3, 1) := by decide +kernel
theorem dL_law_113 : decode code 113 = .ok (.iconst 2, 1) := by decide +kernel
theorem dL_law_114 : decode code 114 = .ok (.iadd, 1) := by decide +kernel
theorem dL_law_115 : decode code 115 = .ok (.iaload, 1) := by decide +kernel
theorem dL_law_116 : decode code 116 = .ok (.invokevirtual 18, 3) := by decide +kernel
theorem dL_law_119 : decode code 119 = .ok (.aload_n 2, 1) := by decide +kernel
theorem dL_law_120 : decode code 120 = .ok (.aload_n 0, 1) := by decide +kernel
theorem dL_law_121 : decode code 121 = .ok (.iload_n 3, 1) := by decide +kernel
theorem dL_law_122 : decode code 122 = .ok (.iconst 1, 1) := by decide +kernel
theorem dL_law_123 : decode code 123 = .ok (.iadd, 1) := by decide +kernel
theorem dL_law_124 : decode code 124 = .ok (.iaload, 1) := by decide +kernel
theorem dL_law_125 : decode code 125 = .ok (.aload_n 0, 1) := by decide +kernel
theorem dL_law_126 : decode code 126 = .ok (.iload_n 3, 1) := by decide +kernel
theorem dL_law_127 : decode code 127 = .ok (.iconst 2, 1) := by decide +kernel
theorem dL_law_128 : decode code 128 = .ok (.iadd, 1) := by decide +kernel
theorem dL_law_129 : decode code 129 = .ok (.iaload, 1) := by decide +kernel
theorem dL_law_130 : decode code 130 = .ok (.invokevirtual 22, 3) := by decide +kernel
theorem dL_law_133 : decode code 133 = .ok (.if_icmp .eq 243, 3) := by decide +kernel
theorem dL_law_136 : decode code 136 = .ok (.iconst 0, 1) := by decide +kernel
theorem dL_law_137 : decode code 137 = .ok (.ireturn, 1) := by decide +kernel
theorem dL_law_138 : decode code 138 = .ok (.aload_n 1, 1) := by decide +kernel
theorem dL_law_139 : decode code 139 = .ok (.aload_n 0, 1) := by decide +kernel
theorem dL_law_140 : decode code 140 = .ok (.iload_n 3, 1) := by decide +kernel
theorem dL_law_141 : decode code 141 = .ok (.iconst 1, 1) := by decide +kernel
theorem dL_law_142 : decode code 142 = .ok (.iadd, 1) := by decide +kernel
theorem dL_law_143 : decode code 143 = .ok (.iaload, 1) := by decide +kernel
theorem dL_law_144 : decode code 144 = .ok (.invokevirtual 23, 3) := by decide +kernel
theorem dL_law_147 : decode code 147 = .ok (.aload_n 2, 1) := by decide +kernel
theorem dL_law_148 : decode code 148 = .ok (.aload_n 0, 1) := by decide +kernel
theorem dL_law_149 : decode code 149 = .ok (.iload_n 3, 1) := by decide +kernel
theorem dL_law_150 : decode code 150 = .ok (.iconst 1, 1) := by decide +kernel
theorem dL_law_151 : decode code 151 = .ok (.iadd, 1) := by decide +kernel
theorem dL_law_152 : decode code 152 = .ok (.iaload, 1) := by decide +kernel
theorem dL_law_153 : decode code 153 = .ok (.invokevirtual 27, 3) := by decide +kernel
theorem dL_law_156 : decode code 156 = .ok (.if_icmp .eq 220, 3) := by decide +kernel
theorem dL_law_159 : decode code 159 = .ok (.iconst 0, 1) := by decide +kernel
theorem dL_law_160 : decode code 160 = .ok (.ireturn, 1) := by decide +kernel
theorem dL_law_161 : decode code 161 = .ok (.aload_n 1, 1) := by decide +kernel
theorem dL_law_162 : decode code 162 = .ok (.aload_n 0, 1) := by decide +kernel
theorem dL_law_163 : decode code 163 = .ok (.iload_n 3, 1) := by decide +kernel
theorem dL_law_164 : decode code 164 = .ok (.iconst 1, 1) := by decide +kernel
theorem dL_law_165 : decode code 165 = .ok (.iadd, 1) := by decide +kernel
theorem dL_law_166 : decode code 166 = .ok (.iaload, 1) := by decide +kernel
theorem dL_law_167 : decode code 167 = .ok (.aload_n 0, 1) := by decide +kernel
theorem dL_law_168 : decode code 168 = .ok (.iload_n 3, 1) := by decide +kernel
theorem dL_law_169 : decode code 169 = .ok (.iconst 2, 1) := by decide +kernel
theorem dL_law_170 : decode code 170 = .ok (.iadd, 1) := by decide +kernel
theorem dL_law_171 : decode code 171 = .ok (.iaload, 1) := by decide +kernel
theorem dL_law_172 : decode code 172 = .ok (.aload_n 0, 1) := by decide +kernel
theorem dL_law_173 : decode code 173 = .ok (.iload_n 3, 1) := by decide +kernel
theorem dL_law_174 : decode code 174 = .ok (.iconst 3, 1) := by decide +kernel
theorem dL_law_175 : decode code 175 = .ok (.iadd, 1) := by decide +kernel
theorem dL_law_176 : decode code 176 = .ok (.iaload, 1) := by decide +kernel
theorem dL_law_177 : decode code 177 = .ok (.invokevirtual 28, 3) := by decide +kernel
theorem dL_law_180 : decode code 180 = .ok (.aload_n 2, 1) := by decide +kernel
theorem dL_law_181 : decode code 181 = .ok (.aload_n 0, 1) := by decide +kernel
theorem dL_law_182 : decode code 182 = .ok (.iload_n 3, 1) := by decide +kernel
theorem dL_law_183 : decode code 183 = .ok (.iconst 1, 1) := by decide +kernel
theorem dL_law_184 : decode code 184 = .ok (.iadd, 1) := by decide +kernel
theorem dL_law_185 : decode code 185 = .ok (.iaload, 1) := by decide +kernel
theorem dL_law_186 : decode code 186 = .ok (.aload_n 0, 1) := by decide +kernel
theorem dL_law_187 : decode code 187 = .ok (.iload_n 3, 1) := by decide +kernel
theorem dL_law_188 : decode code 188 = .ok (.iconst 2, 1) := by decide +kernel
theorem dL_law_189 : decode code 189 = .ok (.iadd, 1) := by decide +kernel
theorem dL_law_190 : decode code 190 = .ok (.iaload, 1) := by decide +kernel
theorem dL_law_191 : decode code 191 = .ok (.aload_n 0, 1) := by decide +kernel
theorem dL_law_192 : decode code 192 = .ok (.iload_n 3, 1) := by decide +kernel
theorem dL_law_193 : decode code 193 = .ok (.iconst 3, 1) := by decide +kernel
theorem dL_law_194 : decode code 194 = .ok (.iadd, 1) := by decide +kernel
theorem dL_law_195 : decode code 195 = .ok (.iaload, 1) := by decide +kernel
theorem dL_law_196 : decode code 196 = .ok (.invokevirtual 32, 3) := by decide +kernel
theorem dL_law_199 : decode code 199 = .ok (.if_icmp .eq 177, 3) := by decide +kernel
theorem dL_law_202 : decode code 202 = .ok (.iconst 0, 1) := by decide +kernel
theorem dL_law_203 : decode code 203 = .ok (.ireturn, 1) := by decide +kernel
theorem dL_law_204 : decode code 204 = .ok (.aload_n 1, 1) := by decide +kernel
theorem dL_law_205 : decode code 205 = .ok (.invokevirtual 33, 3) := by decide +kernel
theorem dL_law_208 : decode code 208 = .ok (.aload_n 2, 1) := by decide +kernel
theorem dL_law_209 : decode code 209 = .ok (.invokevirtual 36, 3) := by decide +kernel
theorem dL_law_212 : decode code 212 = .ok (.if_icmp .eq 164, 3) := by decide +kernel
theorem dL_law_215 : decode code 215 = .ok (.iconst 0, 1) := by decide +kernel
theorem dL_law_216 : decode code 216 = .ok (.ireturn, 1) := by decide +kernel
theorem dL_law_217 : decode code 217 = .ok (.aload_n 1, 1) := by decide +kernel
theorem dL_law_218 : decode code 218 = .ok (.aload_n 0, 1) := by decide +kernel
theorem dL_law_219 : decode code 219 = .ok (.iload_n 3, 1) := by decide +kernel
theorem dL_law_220 : decode code 220 = .ok (.iconst 1, 1) := by decide +kernel
theorem dL_law_221 : decode code 221 = .ok (.iadd, 1) := by decide +kernel
theorem dL_law_222 : decode code 222 = .ok (.iaload, 1) := by decide +kernel
theorem dL_law_223 : decode code 223 = .ok (.invokevirtual 37, 3) := by decide +kernel
theorem dL_law_226 : decode code 226 = .ok (.aload_n 2, 1) := by decide +kernel
theorem dL_law_227 : decode code 227 = .ok (.aload_n 0, 1) := by decide +kernel
theorem dL_law_228 : decode code 228 = .ok (.iload_n 3, 1) := by decide +kernel
theorem dL_law_229 : decode code 229 = .ok (.iconst 1, 1) := by decide +kernel
theorem dL_law_230 : decode code 230 = .ok (.iadd, 1) := by decide +kernel
theorem dL_law_231 : decode code 231 = .ok (.iaload, 1) := by decide +kernel
theorem dL_law_232 : decode code 232 = .ok (.invokevirtual 40, 3) := by decide +kernel
theorem dL_law_235 : decode code 235 = .ok (.if_icmp .eq 141, 3) := by decide +kernel
theorem dL_law_238 : decode code 238 = .ok (.iconst 0, 1) := by decide +kernel
theorem dL_law_239 : decode code 239 = .ok (.ireturn, 1) := by decide +kernel
theorem dL_law_240 : decode code 240 = .ok (.aload_n 1, 1) := by decide +kernel
theorem dL_law_241 : decode code 241 = .ok (.aload_n 0, 1) := by decide +kernel
theorem dL_law_242 : decode code 242 = .ok (.iload_n 3, 1) := by decide +kernel
theorem dL_law_243 : decode code 243 = .ok (.iconst 1, 1) := by decide +kernel
theorem dL_law_244 : decode code 244 = .ok (.iadd, 1) := by decide +kernel
theorem dL_law_245 : decode code 245 = .ok (.iaload, 1) := by decide +kernel
theorem dL_law_246 : decode code 246 = .ok (.invokevirtual 41, 3) := by decide +kernel
theorem dL_law_249 : decode code 249 = .ok (.aload_n 2, 1) := by decide +kernel
theorem dL_law_250 : decode code 250 = .ok (.aload_n 0, 1) := by decide +kernel
theorem dL_law_251 : decode code 251 = .ok (.iload_n 3, 1) := by decide +kernel
theorem dL_law_252 : decode code 252 = .ok (.iconst 1, 1) := by decide +kernel
theorem dL_law_253 : decode code 253 = .ok (.iadd, 1) := by decide +kernel
theorem dL_law_254 : decode code 254 = .ok (.iaload, 1) := by decide +kernel
theorem dL_law_255 : decode code 255 = .ok (.invokevirtual 44, 3) := by decide +kernel
theorem dL_law_258 : decode code 258 = .ok (.if_icmp .eq 118, 3) := by decide +kernel
theorem dL_law_261 : decode code 261 = .ok (.iconst 0, 1) := by decide +kernel
theorem dL_law_262 : decode code 262 = .ok (.ireturn, 1) := by decide +kernel
theorem dL_law_263 : decode code 263 = .ok (.aload_n 1, 1) := by decide +kernel
theorem dL_law_264 : decode code 264 = .ok (.aload_n 0, 1) := by decide +kernel
theorem dL_law_265 : decode code 265 = .ok (.iload_n 3, 1) := by decide +kernel
theorem dL_law_266 : decode code 266 = .ok (.iconst 1, 1) := by decide +kernel
theorem dL_law_267 : decode code 267 = .ok (.iadd, 1) := by decide +kernel
theorem dL_law_268 : decode code 268 = .ok (.iaload, 1) := by decide +kernel
theorem dL_law_269 : decode code 269 = .ok (.invokevirtual 45, 3) := by decide +kernel
theorem dL_law_272 : decode code 272 = .ok (.aload_n 2, 1) := by decide +kernel
theorem dL_law_273 : decode code 273 = .ok (.aload_n 0, 1) := by decide +kernel
theorem dL_law_274 : decode code 274 = .ok (.iload_n 3, 1) := by decide +kernel
theorem dL_law_275 : decode code 275 = .ok (.iconst 1, 1) := by decide +kernel
theorem dL_law_276 : decode code 276 = .ok (.iadd, 1) := by decide +kernel
theorem dL_law_277 : decode code 277 = .ok (.iaload, 1) := by decide +kernel
theorem dL_law_278 : decode code 278 = .ok (.invokevirtual 49, 3) := by decide +kernel
theorem dL_law_281 : decode code 281 = .ok (.lcmp, 1) := by decide +kernel
theorem dL_law_282 : decode code 282 = .ok (.ifCond .eq 94, 3) := by decide +kernel
theorem dL_law_285 : decode code 285 = .ok (.iconst 0, 1) := by decide +kernel
theorem dL_law_286 : decode code 286 = .ok (.ireturn, 1) := by decide +kernel
theorem dL_law_287 : decode code 287 = .ok (.aload_n 1, 1) := by decide +kernel
theorem dL_law_288 : decode code 288 = .ok (.aload_n 0, 1) := by decide +kernel
theorem dL_law_289 : decode code 289 = .ok (.iload_n 3, 1) := by decide +kernel
theorem dL_law_290 : decode code 290 = .ok (.iconst 1, 1) := by decide +kernel
theorem dL_law_291 : decode code 291 = .ok (.iadd, 1) := by decide +kernel
theorem dL_law_292 : decode code 292 = .ok (.iaload, 1) := by decide +kernel
theorem dL_law_293 : decode code 293 = .ok (.aload_n 0, 1) := by decide +kernel
theorem dL_law_294 : decode code 294 = .ok (.iload_n 3, 1) := by decide +kernel
theorem dL_law_295 : decode code 295 = .ok (.iconst 2, 1) := by decide +kernel
theorem dL_law_296 : decode code 296 = .ok (.iadd, 1) := by decide +kernel
theorem dL_law_297 : decode code 297 = .ok (.iaload, 1) := by decide +kernel
theorem dL_law_298 : decode code 298 = .ok (.invokevirtual 50, 3) := by decide +kernel
theorem dL_law_301 : decode code 301 = .ok (.aload_n 2, 1) := by decide +kernel
theorem dL_law_302 : decode code 302 = .ok (.aload_n 0, 1) := by decide +kernel
theorem dL_law_303 : decode code 303 = .ok (.iload_n 3, 1) := by decide +kernel
theorem dL_law_304 : decode code 304 = .ok (.iconst 1, 1) := by decide +kernel
theorem dL_law_305 : decode code 305 = .ok (.iadd, 1) := by decide +kernel
theorem dL_law_306 : decode code 306 = .ok (.iaload, 1) := by decide +kernel
theorem dL_law_307 : decode code 307 = .ok (.aload_n 0, 1) := by decide +kernel
theorem dL_law_308 : decode code 308 = .ok (.iload_n 3, 1) := by decide +kernel
theorem dL_law_309 : decode code 309 = .ok (.iconst 2, 1) := by decide +kernel
theorem dL_law_310 : decode code 310 = .ok (.iadd, 1) := by decide +kernel
theorem dL_law_311 : decode code 311 = .ok (.iaload, 1) := by decide +kernel
theorem dL_law_312 : decode code 312 = .ok (.invokevirtual 53, 3) := by decide +kernel
theorem dL_law_315 : decode code 315 = .ok (.if_icmp .eq 61, 3) := by decide +kernel
theorem dL_law_318 : decode code 318 = .ok (.iconst 0, 1) := by decide +kernel
theorem dL_law_319 : decode code 319 = .ok (.ireturn, 1) := by decide +kernel
theorem dL_law_320 : decode code 320 = .ok (.aload_n 1, 1) := by decide +kernel
theorem dL_law_321 : decode code 321 = .ok (.aload_n 0, 1) := by decide +kernel
theorem dL_law_322 : decode code 322 = .ok (.iload_n 3, 1) := by decide +kernel
theorem dL_law_323 : decode code 323 = .ok (.iconst 1, 1) := by decide +kernel
theorem dL_law_324 : decode code 324 = .ok (.iadd, 1) := by decide +kernel
theorem dL_law_325 : decode code 325 = .ok (.iaload, 1) := by decide +kernel
theorem dL_law_326 : decode code 326 = .ok (.aload_n 0, 1) := by decide +kernel
theorem dL_law_327 : decode code 327 = .ok (.iload_n 3, 1) := by decide +kernel
theorem dL_law_328 : decode code 328 = .ok (.iconst 2, 1) := by decide +kernel
theorem dL_law_329 : decode code 329 = .ok (.iadd, 1) := by decide +kernel
theorem dL_law_330 : decode code 330 = .ok (.iaload, 1) := by decide +kernel
theorem dL_law_331 : decode code 331 = .ok (.invokevirtual 54, 3) := by decide +kernel
theorem dL_law_334 : decode code 334 = .ok (.aload_n 2, 1) := by decide +kernel
theorem dL_law_335 : decode code 335 = .ok (.aload_n 0, 1) := by decide +kernel
theorem dL_law_336 : decode code 336 = .ok (.iload_n 3, 1) := by decide +kernel
theorem dL_law_337 : decode code 337 = .ok (.iconst 1, 1) := by decide +kernel
theorem dL_law_338 : decode code 338 = .ok (.iadd, 1) := by decide +kernel
theorem dL_law_339 : decode code 339 = .ok (.iaload, 1) := by decide +kernel
theorem dL_law_340 : decode code 340 = .ok (.aload_n 0, 1) := by decide +kernel
theorem dL_law_341 : decode code 341 = .ok (.iload_n 3, 1) := by decide +kernel
theorem dL_law_342 : decode code 342 = .ok (.iconst 2, 1) := by decide +kernel
theorem dL_law_343 : decode code 343 = .ok (.iadd, 1) := by decide +kernel
theorem dL_law_344 : decode code 344 = .ok (.iaload, 1) := by decide +kernel
theorem dL_law_345 : decode code 345 = .ok (.invokevirtual 57, 3) := by decide +kernel
theorem dL_law_348 : decode code 348 = .ok (.if_icmp .eq 28, 3) := by decide +kernel
theorem dL_law_351 : decode code 351 = .ok (.iconst 0, 1) := by decide +kernel
theorem dL_law_352 : decode code 352 = .ok (.ireturn, 1) := by decide +kernel
theorem dL_law_353 : decode code 353 = .ok (.aload_n 1, 1) := by decide +kernel
theorem dL_law_354 : decode code 354 = .ok (.aload_n 0, 1) := by decide +kernel
theorem dL_law_355 : decode code 355 = .ok (.iload_n 3, 1) := by decide +kernel
theorem dL_law_356 : decode code 356 = .ok (.iconst 1, 1) := by decide +kernel
theorem dL_law_357 : decode code 357 = .ok (.iadd, 1) := by decide +kernel
theorem dL_law_358 : decode code 358 = .ok (.iaload, 1) := by decide +kernel
theorem dL_law_359 : decode code 359 = .ok (.invokevirtual 58, 3) := by decide +kernel
theorem dL_law_362 : decode code 362 = .ok (.aload_n 2, 1) := by decide +kernel
theorem dL_law_363 : decode code 363 = .ok (.aload_n 0, 1) := by decide +kernel
theorem dL_law_364 : decode code 364 = .ok (.iload_n 3, 1) := by decide +kernel
theorem dL_law_365 : decode code 365 = .ok (.iconst 1, 1) := by decide +kernel
theorem dL_law_366 : decode code 366 = .ok (.iadd, 1) := by decide +kernel
theorem dL_law_367 : decode code 367 = .ok (.iaload, 1) := by decide +kernel
theorem dL_law_368 : decode code 368 = .ok (.invokevirtual 61, 3) := by decide +kernel
theorem dL_law_371 : decode code 371 = .ok (.if_icmp .eq 5, 3) := by decide +kernel
theorem dL_law_374 : decode code 374 = .ok (.iconst 0, 1) := by decide +kernel
theorem dL_law_375 : decode code 375 = .ok (.ireturn, 1) := by decide +kernel
theorem dL_law_376 : decode code 376 = .ok (.iinc 3 4, 3) := by decide +kernel
theorem dL_law_379 : decode code 379 = .ok (.goto (-361), 3) := by decide +kernel
theorem dL_law_382 : decode code 382 = .ok (.iconst 1, 1) := by decide +kernel
theorem dL_law_383 : decode code 383 = .ok (.ireturn, 1) := by decide +kernel
