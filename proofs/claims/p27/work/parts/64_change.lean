noncomputable section
/-! THE LAW'S CHANGE: which call of the class it is -/
def chF (a b : Int32) : pF × List Value := if lowI a 22 = 0 then (if lowI b 5 = 0 then (F_X8_begin, []) else (F_X8_set, [.int (8), .int (lowI b 21)])) else if lowI a 22 = 1 then (if lowI b 2 = 0 then (F_X8_set, [.int (0), .int (lowI (b >>> ((1 : Int32) &&& 31)) 201)]) else (F_X8_set, [.int (1), .int (lowI (b >>> ((1 : Int32) &&& 31)) 3001)])) else if lowI a 22 = 2 then (F_X8_set, [.int (2), .int (lowI b 1500)]) else if lowI a 22 = 3 then (F_X8_set, [.int (3), .int (lowI b 1001)]) else if lowI a 22 = 4 then (if lowI b 2 = 0 then (F_X8_set, [.int (4), .int ((1 : Int32) + lowI (b >>> ((1 : Int32) &&& 31)) 100)]) else (F_X8_set, [.int (6), .int (lowI (b >>> ((1 : Int32) &&& 31)) 51)])) else if lowI a 22 = 5 then (if lowI b 2 = 0 then (F_X8_set, [.int (5), .int (lowI (b >>> ((1 : Int32) &&& 31)) 9)]) else (F_X8_set, [.int (7), .int (lowI (b >>> ((1 : Int32) &&& 31)) 2001)])) else if lowI a 22 = 6 then (F_X8_tear, [.int ((1 : Int32) + lowI b 50)]) else if lowI a 22 = 7 then (F_X8_tear, [.int ((1 : Int32) + lowI b 50)]) else if lowI a 22 = 8 then (F_X8_change, [.int (lowI b 4)]) else if lowI a 22 = 9 then (F_X8_change, [.int (lowI b 4)]) else if lowI a 22 = 10 then (if lowI (b >>> ((20 : Int32) &&& 31)) 3 = 0 then (F_X8_fill, [.int (lowI b 4), .int (lowI (b >>> ((2 : Int32) &&& 31)) 5001), .int (lowI (b >>> ((5 : Int32) &&& 31)) 50001)]) else (F_X8_fill, [.int (lowI b 4), .int (lowI (b >>> ((2 : Int32) &&& 31)) 5001), .int (lowI (b >>> ((5 : Int32) &&& 31)) 5000)])) else if lowI a 22 = 11 then (F_X8_drain, [.int (lowI b 4), .int ((1 : Int32) + lowI (b >>> ((2 : Int32) &&& 31)) 9000)]) else if lowI a 22 = 12 then (F_L_plan, [.int (b), .int (a)]) else if lowI a 22 = 13 then (F_L_plan, [.int (b), .int (a)]) else if lowI a 22 = 15 then (if lowI b 2 = 0 then (F_X8_keep, [.int (lowI (b >>> ((1 : Int32) &&& 31)) 2)]) else (F_X8_back, [.int (lowI (b >>> ((1 : Int32) &&& 31)) 2)])) else (if lowI (b >>> ((9 : Int32) &&& 31)) 4 = 0 then (F_X8_run, [.int ((1 : Int32) + lowI b 100)]) else (F_X8_run, [.int ((1 : Int32) + lowI b 12)]))
theorem dL_change_0 : decode cL_change 0 = .ok (.iload_n 1, 1) := by decide +kernel
theorem dL_change_1 : decode cL_change 1 = .ok (.bipush 22, 2) := by decide +kernel
theorem dL_change_3 : decode cL_change 3 = .ok (.invokestatic 15, 3) := by decide +kernel
theorem dL_change_6 : decode cL_change 6 = .ok (.tableswitch 387 0 15 #[78, 106, 146, 159, 172, 213, 253, 253, 266, 266, 276, 320, 341, 341, 348, 353], 78) := by decide +kernel
theorem dL_change_84 : decode cL_change 84 = .ok (.iload_n 2, 1) := by decide +kernel
theorem dL_change_85 : decode cL_change 85 = .ok (.iconst 5, 1) := by decide +kernel
theorem dL_change_86 : decode cL_change 86 = .ok (.invokestatic 15, 3) := by decide +kernel
theorem dL_change_89 : decode cL_change 89 = .ok (.ifCond .ne 10, 3) := by decide +kernel
theorem dL_change_92 : decode cL_change 92 = .ok (.aload_n 0, 1) := by decide +kernel
theorem dL_change_93 : decode cL_change 93 = .ok (.invokevirtual 32, 3) := by decide +kernel
theorem dL_change_96 : decode cL_change 96 = .ok (.goto 15, 3) := by decide +kernel
theorem dL_change_99 : decode cL_change 99 = .ok (.aload_n 0, 1) := by decide +kernel
theorem dL_change_100 : decode cL_change 100 = .ok (.bipush 8, 2) := by decide +kernel
theorem dL_change_102 : decode cL_change 102 = .ok (.iload_n 2, 1) := by decide +kernel
theorem dL_change_103 : decode cL_change 103 = .ok (.bipush 21, 2) := by decide +kernel
theorem dL_change_105 : decode cL_change 105 = .ok (.invokestatic 15, 3) := by decide +kernel
theorem dL_change_108 : decode cL_change 108 = .ok (.invokevirtual 35, 3) := by decide +kernel
theorem dL_change_111 : decode cL_change 111 = .ok (.ireturn, 1) := by decide +kernel
theorem dL_change_112 : decode cL_change 112 = .ok (.iload_n 2, 1) := by decide +kernel
theorem dL_change_113 : decode cL_change 113 = .ok (.iconst 2, 1) := by decide +kernel
theorem dL_change_114 : decode cL_change 114 = .ok (.invokestatic 15, 3) := by decide +kernel
theorem dL_change_117 : decode cL_change 117 = .ok (.ifCond .ne 20, 3) := by decide +kernel
theorem dL_change_120 : decode cL_change 120 = .ok (.aload_n 0, 1) := by decide +kernel
theorem dL_change_121 : decode cL_change 121 = .ok (.iconst 0, 1) := by decide +kernel
theorem dL_change_122 : decode cL_change 122 = .ok (.iload_n 2, 1) := by decide +kernel
theorem dL_change_123 : decode cL_change 123 = .ok (.iconst 1, 1) := by decide +kernel
theorem dL_change_124 : decode cL_change 124 = .ok (.ishr, 1) := by decide +kernel
theorem dL_change_125 : decode cL_change 125 = .ok (.sipush 201, 3) := by decide +kernel
theorem dL_change_128 : decode cL_change 128 = .ok (.invokestatic 15, 3) := by decide +kernel
theorem dL_change_131 : decode cL_change 131 = .ok (.invokevirtual 35, 3) := by decide +kernel
theorem dL_change_134 : decode cL_change 134 = .ok (.goto 17, 3) := by decide +kernel
theorem dL_change_137 : decode cL_change 137 = .ok (.aload_n 0, 1) := by decide +kernel
theorem dL_change_138 : decode cL_change 138 = .ok (.iconst 1, 1) := by decide +kernel
theorem dL_change_139 : decode cL_change 139 = .ok (.iload_n 2, 1) := by decide +kernel
theorem dL_change_140 : decode cL_change 140 = .ok (.iconst 1, 1) := by decide +kernel
theorem dL_change_141 : decode cL_change 141 = .ok (.ishr, 1) := by decide +kernel
theorem dL_change_142 : decode cL_change 142 = .ok (.sipush 3001, 3) := by decide +kernel
theorem dL_change_145 : decode cL_change 145 = .ok (.invokestatic 15, 3) := by decide +kernel
theorem dL_change_148 : decode cL_change 148 = .ok (.invokevirtual 35, 3) := by decide +kernel
theorem dL_change_151 : decode cL_change 151 = .ok (.ireturn, 1) := by decide +kernel
theorem dL_change_152 : decode cL_change 152 = .ok (.aload_n 0, 1) := by decide +kernel
theorem dL_change_153 : decode cL_change 153 = .ok (.iconst 2, 1) := by decide +kernel
theorem dL_change_154 : decode cL_change 154 = .ok (.iload_n 2, 1) := by decide +kernel
theorem dL_change_155 : decode cL_change 155 = .ok (.sipush 1500, 3) := by decide +kernel
theorem dL_change_158 : decode cL_change 158 = .ok (.invokestatic 15, 3) := by decide +kernel
theorem dL_change_161 : decode cL_change 161 = .ok (.invokevirtual 35, 3) := by decide +kernel
theorem dL_change_164 : decode cL_change 164 = .ok (.ireturn, 1) := by decide +kernel
theorem dL_change_165 : decode cL_change 165 = .ok (.aload_n 0, 1) := by decide +kernel
theorem dL_change_166 : decode cL_change 166 = .ok (.iconst 3, 1) := by decide +kernel
theorem dL_change_167 : decode cL_change 167 = .ok (.iload_n 2, 1) := by decide +kernel
theorem dL_change_168 : decode cL_change 168 = .ok (.sipush 1001, 3) := by decide +kernel
theorem dL_change_171 : decode cL_change 171 = .ok (.invokestatic 15, 3) := by decide +kernel
theorem dL_change_174 : decode cL_change 174 = .ok (.invokevirtual 35, 3) := by decide +kernel
theorem dL_change_177 : decode cL_change 177 = .ok (.ireturn, 1) := by decide +kernel
theorem dL_change_178 : decode cL_change 178 = .ok (.iload_n 2, 1) := by decide +kernel
theorem dL_change_179 : decode cL_change 179 = .ok (.iconst 2, 1) := by decide +kernel
theorem dL_change_180 : decode cL_change 180 = .ok (.invokestatic 15, 3) := by decide +kernel
theorem dL_change_183 : decode cL_change 183 = .ok (.ifCond .ne 21, 3) := by decide +kernel
theorem dL_change_186 : decode cL_change 186 = .ok (.aload_n 0, 1) := by decide +kernel
theorem dL_change_187 : decode cL_change 187 = .ok (.iconst 4, 1) := by decide +kernel
theorem dL_change_188 : decode cL_change 188 = .ok (.iconst 1, 1) := by decide +kernel
theorem dL_change_189 : decode cL_change 189 = .ok (.iload_n 2, 1) := by decide +kernel
theorem dL_change_190 : decode cL_change 190 = .ok (.iconst 1, 1) := by decide +kernel
theorem dL_change_191 : decode cL_change 191 = .ok (.ishr, 1) := by decide +kernel
theorem dL_change_192 : decode cL_change 192 = .ok (.bipush 100, 2) := by decide +kernel
theorem dL_change_194 : decode cL_change 194 = .ok (.invokestatic 15, 3) := by decide +kernel
theorem dL_change_197 : decode cL_change 197 = .ok (.iadd, 1) := by decide +kernel
theorem dL_change_198 : decode cL_change 198 = .ok (.invokevirtual 35, 3) := by decide +kernel
theorem dL_change_201 : decode cL_change 201 = .ok (.goto 17, 3) := by decide +kernel
theorem dL_change_204 : decode cL_change 204 = .ok (.aload_n 0, 1) := by decide +kernel
theorem dL_change_205 : decode cL_change 205 = .ok (.bipush 6, 2) := by decide +kernel
theorem dL_change_207 : decode cL_change 207 = .ok (.iload_n 2, 1) := by decide +kernel
theorem dL_change_208 : decode cL_change 208 = .ok (.iconst 1, 1) := by decide +kernel
theorem dL_change_209 : decode cL_change 209 = .ok (.ishr, 1) := by decide +kernel
theorem dL_change_210 : decode cL_change 210 = .ok (.bipush 51, 2) := by decide +kernel
theorem dL_change_212 : decode cL_change 212 = .ok (.invokestatic 15, 3) := by decide +kernel
theorem dL_change_215 : decode cL_change 215 = .ok (.invokevirtual 35, 3) := by decide +kernel
theorem dL_change_218 : decode cL_change 218 = .ok (.ireturn, 1) := by decide +kernel
theorem dL_change_219 : decode cL_change 219 = .ok (.iload_n 2, 1) := by decide +kernel
theorem dL_change_220 : decode cL_change 220 = .ok (.iconst 2, 1) := by decide +kernel
theorem dL_change_221 : decode cL_change 221 = .ok (.invokestatic 15, 3) := by decide +kernel
theorem dL_change_224 : decode cL_change 224 = .ok (.ifCond .ne 19, 3) := by decide +kernel
theorem dL_change_227 : decode cL_change 227 = .ok (.aload_n 0, 1) := by decide +kernel
theorem dL_change_228 : decode cL_change 228 = .ok (.iconst 5, 1) := by decide +kernel
theorem dL_change_229 : decode cL_change 229 = .ok (.iload_n 2, 1) := by decide +kernel
theorem dL_change_230 : decode cL_change 230 = .ok (.iconst 1, 1) := by decide +kernel
theorem dL_change_231 : decode cL_change 231 = .ok (.ishr, 1) := by decide +kernel
theorem dL_change_232 : decode cL_change 232 = .ok (.bipush 9, 2) := by decide +kernel
theorem dL_change_234 : decode cL_change 234 = .ok (.invokestatic 15, 3) := by decide +kernel
theorem dL_change_237 : decode cL_change 237 = .ok (.invokevirtual 35, 3) := by decide +kernel
theorem dL_change_240 : decode cL_change 240 = .ok (.goto 18, 3) := by decide +kernel
theorem dL_change_243 : decode cL_change 243 = .ok (.aload_n 0, 1) := by decide +kernel
theorem dL_change_244 : decode cL_change 244 = .ok (.bipush 7, 2) := by decide +kernel
theorem dL_change_246 : decode cL_change 246 = .ok (.iload_n 2, 1) := by decide +kernel
theorem dL_change_247 : decode cL_change 247 = .ok (.iconst 1, 1) := by decide +kernel
theorem dL_change_248 : decode cL_change 248 = .ok (.ishr, 1) := by decide +kernel
theorem dL_change_249 : decode cL_change 249 = .ok (.sipush 2001, 3) := by decide +kernel
theorem dL_change_252 : decode cL_change 252 = .ok (.invokestatic 15, 3) := by decide +kernel
theorem dL_change_255 : decode cL_change 255 = .ok (.invokevirtual 35, 3) := by decide +kernel
theorem dL_change_258 : decode cL_change 258 = .ok (.ireturn, 1) := by decide +kernel
theorem dL_change_259 : decode cL_change 259 = .ok (.aload_n 0, 1) := by decide +kernel
theorem dL_change_260 : decode cL_change 260 = .ok (.iconst 1, 1) := by decide +kernel
theorem dL_change_261 : decode cL_change 261 = .ok (.iload_n 2, 1) := by decide +kernel
theorem dL_change_262 : decode cL_change 262 = .ok (.bipush 50, 2) := by decide +kernel
theorem dL_change_264 : decode cL_change 264 = .ok (.invokestatic 15, 3) := by decide +kernel
theorem dL_change_267 : decode cL_change 267 = .ok (.iadd, 1) := by decide +kernel
theorem dL_change_268 : decode cL_change 268 = .ok (.invokevirtual 38, 3) := by decide +kernel
theorem dL_change_271 : decode cL_change 271 = .ok (.ireturn, 1) := by decide +kernel
theorem dL_change_272 : decode cL_change 272 = .ok (.aload_n 0, 1) := by decide +kernel
theorem dL_change_273 : decode cL_change 273 = .ok (.iload_n 2, 1) := by decide +kernel
theorem dL_change_274 : decode cL_change 274 = .ok (.iconst 4, 1) := by decide +kernel
theorem dL_change_275 : decode cL_change 275 = .ok (.invokestatic 15, 3) := by decide +kernel
theorem dL_change_278 : decode cL_change 278 = .ok (.invokevirtual 41, 3) := by decide +kernel
theorem dL_change_281 : decode cL_change 281 = .ok (.ireturn, 1) := by decide +kernel
theorem dL_change_282 : decode cL_change 282 = .ok (.aload_n 0, 1) := by decide +kernel
theorem dL_change_283 : decode cL_change 283 = .ok (.iload_n 2, 1) := by decide +kernel
theorem dL_change_284 : decode cL_change 284 = .ok (.iconst 4, 1) := by decide +kernel
theorem dL_change_285 : decode cL_change 285 = .ok (.invokestatic 15, 3) := by decide +kernel
theorem dL_change_288 : decode cL_change 288 = .ok (.iload_n 2, 1) := by decide +kernel
theorem dL_change_289 : decode cL_change 289 = .ok (.iconst 2, 1) := by decide +kernel
theorem dL_change_290 : decode cL_change 290 = .ok (.ishr, 1) := by decide +kernel
theorem dL_change_291 : decode cL_change 291 = .ok (.sipush 5001, 3) := by decide +kernel
theorem dL_change_294 : decode cL_change 294 = .ok (.invokestatic 15, 3) := by decide +kernel
theorem dL_change_297 : decode cL_change 297 = .ok (.iload_n 2, 1) := by decide +kernel
theorem dL_change_298 : decode cL_change 298 = .ok (.iconst 5, 1) := by decide +kernel
theorem dL_change_299 : decode cL_change 299 = .ok (.ishr, 1) := by decide +kernel
theorem dL_change_300 : decode cL_change 300 = .ok (.iload_n 2, 1) := by decide +kernel
theorem dL_change_301 : decode cL_change 301 = .ok (.bipush 20, 2) := by decide +kernel
theorem dL_change_303 : decode cL_change 303 = .ok (.ishr, 1) := by decide +kernel
theorem dL_change_304 : decode cL_change 304 = .ok (.iconst 3, 1) := by decide +kernel
theorem dL_change_305 : decode cL_change 305 = .ok (.invokestatic 15, 3) := by decide +kernel
theorem dL_change_308 : decode cL_change 308 = .ok (.ifCond .ne 8, 3) := by decide +kernel
theorem dL_change_311 : decode cL_change 311 = .ok (.ldc 44, 2) := by decide +kernel
theorem dL_change_313 : decode cL_change 313 = .ok (.goto 6, 3) := by decide +kernel
theorem dL_change_316 : decode cL_change 316 = .ok (.sipush 5000, 3) := by decide +kernel
theorem dL_change_319 : decode cL_change 319 = .ok (.invokestatic 15, 3) := by decide +kernel
theorem dL_change_322 : decode cL_change 322 = .ok (.invokevirtual 45, 3) := by decide +kernel
theorem dL_change_325 : decode cL_change 325 = .ok (.ireturn, 1) := by decide +kernel
theorem dL_change_326 : decode cL_change 326 = .ok (.aload_n 0, 1) := by decide +kernel
theorem dL_change_327 : decode cL_change 327 = .ok (.iload_n 2, 1) := by decide +kernel
theorem dL_change_328 : decode cL_change 328 = .ok (.iconst 4, 1) := by decide +kernel
theorem dL_change_329 : decode cL_change 329 = .ok (.invokestatic 15, 3) := by decide +kernel
theorem dL_change_332 : decode cL_change 332 = .ok (.iconst 1, 1) := by decide +kernel
theorem dL_change_333 : decode cL_change 333 = .ok (.iload_n 2, 1) := by decide +kernel
theorem dL_change_334 : decode cL_change 334 = .ok (.iconst 2, 1) := by decide +kernel
theorem dL_change_335 : decode cL_change 335 = .ok (.ishr, 1) := by decide +kernel
theorem dL_change_336 : decode cL_change 336 = .ok (.sipush 9000, 3) := by decide +kernel
theorem dL_change_339 : decode cL_change 339 = .ok (.invokestatic 15, 3) := by decide +kernel
theorem dL_change_342 : decode cL_change 342 = .ok (.iadd, 1) := by decide +kernel
theorem dL_change_343 : decode cL_change 343 = .ok (.invokevirtual 49, 3) := by decide +kernel
theorem dL_change_346 : decode cL_change 346 = .ok (.ireturn, 1) := by decide +kernel
theorem dL_change_347 : decode cL_change 347 = .ok (.aload_n 0, 1) := by decide +kernel
theorem dL_change_348 : decode cL_change 348 = .ok (.iload_n 2, 1) := by decide +kernel
theorem dL_change_349 : decode cL_change 349 = .ok (.iload_n 1, 1) := by decide +kernel
theorem dL_change_350 : decode cL_change 350 = .ok (.invokestatic 52, 3) := by decide +kernel
theorem dL_change_353 : decode cL_change 353 = .ok (.ireturn, 1) := by decide +kernel
theorem dL_change_354 : decode cL_change 354 = .ok (.aload_n 0, 1) := by decide +kernel
theorem dL_change_355 : decode cL_change 355 = .ok (.invokevirtual 55, 3) := by decide +kernel
theorem dL_change_358 : decode cL_change 358 = .ok (.ireturn, 1) := by decide +kernel
theorem dL_change_359 : decode cL_change 359 = .ok (.iload_n 2, 1) := by decide +kernel
theorem dL_change_360 : decode cL_change 360 = .ok (.iconst 2, 1) := by decide +kernel
theorem dL_change_361 : decode cL_change 361 = .ok (.invokestatic 15, 3) := by decide +kernel
theorem dL_change_364 : decode cL_change 364 = .ok (.ifCond .ne 17, 3) := by decide +kernel
theorem dL_change_367 : decode cL_change 367 = .ok (.aload_n 0, 1) := by decide +kernel
theorem dL_change_368 : decode cL_change 368 = .ok (.iload_n 2, 1) := by decide +kernel
theorem dL_change_369 : decode cL_change 369 = .ok (.iconst 1, 1) := by decide +kernel
theorem dL_change_370 : decode cL_change 370 = .ok (.ishr, 1) := by decide +kernel
theorem dL_change_371 : decode cL_change 371 = .ok (.iconst 2, 1) := by decide +kernel
theorem dL_change_372 : decode cL_change 372 = .ok (.invokestatic 15, 3) := by decide +kernel
theorem dL_change_375 : decode cL_change 375 = .ok (.invokevirtual 58, 3) := by decide +kernel
theorem dL_change_378 : decode cL_change 378 = .ok (.goto 14, 3) := by decide +kernel
theorem dL_change_381 : decode cL_change 381 = .ok (.aload_n 0, 1) := by decide +kernel
theorem dL_change_382 : decode cL_change 382 = .ok (.iload_n 2, 1) := by decide +kernel
theorem dL_change_383 : decode cL_change 383 = .ok (.iconst 1, 1) := by decide +kernel
theorem dL_change_384 : decode cL_change 384 = .ok (.ishr, 1) := by decide +kernel
theorem dL_change_385 : decode cL_change 385 = .ok (.iconst 2, 1) := by decide +kernel
theorem dL_change_386 : decode cL_change 386 = .ok (.invokestatic 15, 3) := by decide +kernel
theorem dL_change_389 : decode cL_change 389 = .ok (.invokevirtual 61, 3) := by decide +kernel
theorem dL_change_392 : decode cL_change 392 = .ok (.ireturn, 1) := by decide +kernel
theorem dL_change_393 : decode cL_change 393 = .ok (.aload_n 0, 1) := by decide +kernel
theorem dL_change_394 : decode cL_change 394 = .ok (.iconst 1, 1) := by decide +kernel
theorem dL_change_395 : decode cL_change 395 = .ok (.iload_n 2, 1) := by decide +kernel
theorem dL_change_396 : decode cL_change 396 = .ok (.iload_n 2, 1) := by decide +kernel
theorem dL_change_397 : decode cL_change 397 = .ok (.bipush 9, 2) := by decide +kernel
theorem dL_change_399 : decode cL_change 399 = .ok (.ishr, 1) := by decide +kernel
theorem dL_change_400 : decode cL_change 400 = .ok (.iconst 4, 1) := by decide +kernel
theorem dL_change_401 : decode cL_change 401 = .ok (.invokestatic 15, 3) := by decide +kernel
theorem dL_change_404 : decode cL_change 404 = .ok (.ifCond .ne 8, 3) := by decide +kernel
theorem dL_change_407 : decode cL_change 407 = .ok (.bipush 100, 2) := by decide +kernel
theorem dL_change_409 : decode cL_change 409 = .ok (.goto 5, 3) := by decide +kernel
theorem dL_change_412 : decode cL_change 412 = .ok (.bipush 12, 2) := by decide +kernel
theorem dL_change_414 : decode cL_change 414 = .ok (.invokestatic 15, 3) := by decide +kernel
theorem dL_change_417 : decode cL_change 417 = .ok (.iadd, 1) := by decide +kernel
theorem dL_change_418 : decode cL_change 418 = .ok (.invokevirtual 64, 3) := by decide +kernel
theorem dL_change_421 : decode cL_change 421 = .ok (.ireturn, 1) := by decide +kernel
def k_L_change : List pEn := [oIload 1, oConst (22), oCallZ 2 F_L_low, oSw [(0, 4), (1, 18), (2, 40), (3, 47), (4, 54), (5, 78), (6, 100), (7, 100), (8, 108), (9, 108), (10, 114), (11, 138), (12, 151), (13, 151), (14, 156), (15, 159)] 179, oIload 2, oConst (5), oCallZ 2 F_L_low, oIfne 11, oAload 0, oCallZ 1 F_X8_begin, oGoto 17, oAload 0, oConst (8), oIload 2, oConst (21), oCallZ 2 F_L_low, oCallZ 3 F_X8_set, oIret, oIload 2, oConst (2), oCallZ 2 F_L_low, oIfne 31, oAload 0, oConst (0), oIload 2, oConst (1), oShr, oConst (201), oCallZ 2 F_L_low, oCallZ 3 F_X8_set, oGoto 39, oAload 0, oConst (1), oIload 2, oConst (1), oShr, oConst (3001), oCallZ 2 F_L_low, oCallZ 3 F_X8_set, oIret, oAload 0, oConst (2), oIload 2, oConst (1500), oCallZ 2 F_L_low, oCallZ 3 F_X8_set, oIret, oAload 0, oConst (3), oIload 2, oConst (1001), oCallZ 2 F_L_low, oCallZ 3 F_X8_set, oIret, oIload 2, oConst (2), oCallZ 2 F_L_low, oIfne 69, oAload 0, oConst (4), oConst (1), oIload 2, oConst (1), oShr, oConst (100), oCallZ 2 F_L_low, oAdd, oCallZ 3 F_X8_set, oGoto 77, oAload 0, oConst (6), oIload 2, oConst (1), oShr, oConst (51), oCallZ 2 F_L_low, oCallZ 3 F_X8_set, oIret, oIload 2, oConst (2), oCallZ 2 F_L_low, oIfne 91, oAload 0, oConst (5), oIload 2, oConst (1), oShr, oConst (9), oCallZ 2 F_L_low, oCallZ 3 F_X8_set, oGoto 99, oAload 0, oConst (7), oIload 2, oConst (1), oShr, oConst (2001), oCallZ 2 F_L_low, oCallZ 3 F_X8_set, oIret, oAload 0, oConst (1), oIload 2, oConst (50), oCallZ 2 F_L_low, oAdd, oCallZ 2 F_X8_tear, oIret, oAload 0, oIload 2, oConst (4), oCallZ 2 F_L_low, oCallZ 2 F_X8_change, oIret, oAload 0, oIload 2, oConst (4), oCallZ 2 F_L_low, oIload 2, oConst (2), oShr, oConst (5001), oCallZ 2 F_L_low, oIload 2, oConst (5), oShr, oIload 2, oConst (20), oShr, oConst (3), oCallZ 2 F_L_low, oIfne 134, oConst (50001), oGoto 135, oConst (5000), oCallZ 2 F_L_low, oCallZ 4 F_X8_fill, oIret, oAload 0, oIload 2, oConst (4), oCallZ 2 F_L_low, oConst (1), oIload 2, oConst (2), oShr, oConst (9000), oCallZ 2 F_L_low, oAdd, oCallZ 3 F_X8_drain, oIret, oAload 0, oIload 2, oIload 1, oCallZ 3 F_L_plan, oIret, oAload 0, oCallZ 1 F_X8_undo, oIret, oIload 2, oConst (2), oCallZ 2 F_L_low, oIfne 171, oAload 0, oIload 2, oConst (1), oShr, oConst (2), oCallZ 2 F_L_low, oCallZ 2 F_X8_keep, oGoto 178, oAload 0, oIload 2, oConst (1), oShr, oConst (2), oCallZ 2 F_L_low, oCallZ 2 F_X8_back, oIret, oAload 0, oConst (1), oIload 2, oIload 2, oConst (9), oShr, oConst (4), oCallZ 2 F_L_low, oIfne 190, oConst (100), oGoto 191, oConst (12), oCallZ 2 F_L_low, oAdd, oCallZ 2 F_X8_run, oIret]
def pc_L_change (i : Nat) : Nat := ([0, 1, 3, 6, 84, 85, 86, 89, 92, 93, 96, 99, 100, 102, 103, 105, 108, 111, 112, 113, 114, 117, 120, 121, 122, 123, 124, 125, 128, 131, 134, 137, 138, 139, 140, 141, 142, 145, 148, 151, 152, 153, 154, 155, 158, 161, 164, 165, 166, 167, 168, 171, 174, 177, 178, 179, 180, 183, 186, 187, 188, 189, 190, 191, 192, 194, 197, 198, 201, 204, 205, 207, 208, 209, 210, 212, 215, 218, 219, 220, 221, 224, 227, 228, 229, 230, 231, 232, 234, 237, 240, 243, 244, 246, 247, 248, 249, 252, 255, 258, 259, 260, 261, 262, 264, 267, 268, 271, 272, 273, 274, 275, 278, 281, 282, 283, 284, 285, 288, 289, 290, 291, 294, 297, 298, 299, 300, 301, 303, 304, 305, 308, 311, 313, 316, 319, 322, 325, 326, 327, 328, 329, 332, 333, 334, 335, 336, 339, 342, 343, 346, 347, 348, 349, 350, 353, 354, 355, 358, 359, 360, 361, 364, 367, 368, 369, 370, 371, 372, 375, 378, 381, 382, 383, 384, 385, 386, 389, 392, 393, 394, 395, 396, 397, 399, 400, 401, 404, 407, 409, 412, 414, 417, 418, 421] : List Nat).getD i 0
abbrev rm_L_change : Room := { frames := 7, cells := 0, slots := 0, locals := 165 }
theorem pl_L_change : pPlain yL_change 3 := by decide +kernel
set_option maxRecDepth 100000 in
set_option maxHeartbeats 4000000 in
theorem ok_k_L_change (l : Launch) : ∀ (i : Nat) (en : pEn), k_L_change[i]? = some en → EOK l cL_change yL_change.cls 3 ((some FieldType.int)) rm_L_change 0 pc_L_change i en := by
  refine allOK_at ?_
  refine And.intro (okIload_n dL_change_0 rfl rfl) ?_
  refine And.intro (okBipush dL_change_1 rfl (by first | rfl | decide)) ?_
  refine And.intro (okCallS (y := yL_low) (oCallZ_is _ _ _) dL_change_3 rfl (ok_F_L_low l) wn_2_66 wn_2_67 wm_1_0 wn_2_68 pl_L_low (by decide)) ?_
  refine And.intro (okTsw dL_change_6 (by decide) (by rfl) (by intro z h1 h2; have : z = 0 ∨ z = 1 ∨ z = 2 ∨ z = 3 ∨ z = 4 ∨ z = 5 ∨ z = 6 ∨ z = 7 ∨ z = 8 ∨ z = 9 ∨ z = 10 ∨ z = 11 ∨ z = 12 ∨ z = 13 ∨ z = 14 ∨ z = 15 := (by omega); rcases this with rfl | rfl | rfl | rfl | rfl | rfl | rfl | rfl | rfl | rfl | rfl | rfl | rfl | rfl | rfl | rfl <;> decide)) ?_
  refine And.intro (okIload_n dL_change_84 rfl rfl) ?_
  refine And.intro (okIconst dL_change_85 rfl (by first | rfl | decide)) ?_
  refine And.intro (okCallS (y := yL_low) (oCallZ_is _ _ _) dL_change_86 rfl (ok_F_L_low l) wn_2_66 wn_2_67 wm_1_0 wn_2_68 pl_L_low (by decide)) ?_
  refine And.intro (okIfne dL_change_89 rfl (by rfl)) ?_
  refine And.intro (okAload_n dL_change_92 rfl rfl) ?_
  refine And.intro (okCallV (y := yX8_begin) (T := TX8) (oCallZ_is _ _ _) dL_change_93 rfl (ok_F_X8_begin l) rc_F_X8_begin rfl wn_2_73 wm_2_64 wm_2_65 wm_1_1 wm_2_66 pl_X8_begin (by decide)) ?_
  refine And.intro (okGoto dL_change_96 (by rfl)) ?_
  refine And.intro (okAload_n dL_change_99 rfl rfl) ?_
  refine And.intro (okBipush dL_change_100 rfl (by first | rfl | decide)) ?_
  refine And.intro (okIload_n dL_change_102 rfl rfl) ?_
  refine And.intro (okBipush dL_change_103 rfl (by first | rfl | decide)) ?_
  refine And.intro (okCallS (y := yL_low) (oCallZ_is _ _ _) dL_change_105 rfl (ok_F_L_low l) wn_2_66 wn_2_67 wm_1_0 wn_2_68 pl_L_low (by decide)) ?_
  refine And.intro (okCallV (y := yX8_set) (T := TX8) (oCallZ_is _ _ _) dL_change_108 rfl (ok_F_X8_set l) rc_F_X8_set rfl wn_2_108 wm_2_99 wm_2_100 wm_1_1 wm_2_101 pl_X8_set (by decide)) ?_
  refine And.intro (okIret dL_change_111 rfl) ?_
  refine And.intro (okIload_n dL_change_112 rfl rfl) ?_
  refine And.intro (okIconst dL_change_113 rfl (by first | rfl | decide)) ?_
  refine And.intro (okCallS (y := yL_low) (oCallZ_is _ _ _) dL_change_114 rfl (ok_F_L_low l) wn_2_66 wn_2_67 wm_1_0 wn_2_68 pl_L_low (by decide)) ?_
  refine And.intro (okIfne dL_change_117 rfl (by rfl)) ?_
  refine And.intro (okAload_n dL_change_120 rfl rfl) ?_
  refine And.intro (okIconst dL_change_121 rfl (by first | rfl | decide)) ?_
  refine And.intro (okIload_n dL_change_122 rfl rfl) ?_
  refine And.intro (okIconst dL_change_123 rfl (by first | rfl | decide)) ?_
  refine And.intro (okShr dL_change_124 rfl) ?_
  refine And.intro (okSipush dL_change_125 rfl (by first | rfl | decide)) ?_
  refine And.intro (okCallS (y := yL_low) (oCallZ_is _ _ _) dL_change_128 rfl (ok_F_L_low l) wn_2_66 wn_2_67 wm_1_0 wn_2_68 pl_L_low (by decide)) ?_
  refine And.intro (okCallV (y := yX8_set) (T := TX8) (oCallZ_is _ _ _) dL_change_131 rfl (ok_F_X8_set l) rc_F_X8_set rfl wn_2_108 wm_2_99 wm_2_100 wm_1_1 wm_2_101 pl_X8_set (by decide)) ?_
  refine And.intro (okGoto dL_change_134 (by rfl)) ?_
  refine And.intro (okAload_n dL_change_137 rfl rfl) ?_
  refine And.intro (okIconst dL_change_138 rfl (by first | rfl | decide)) ?_
  refine And.intro (okIload_n dL_change_139 rfl rfl) ?_
  refine And.intro (okIconst dL_change_140 rfl (by first | rfl | decide)) ?_
  refine And.intro (okShr dL_change_141 rfl) ?_
  refine And.intro (okSipush dL_change_142 rfl (by first | rfl | decide)) ?_
  refine And.intro (okCallS (y := yL_low) (oCallZ_is _ _ _) dL_change_145 rfl (ok_F_L_low l) wn_2_66 wn_2_67 wm_1_0 wn_2_68 pl_L_low (by decide)) ?_
  refine And.intro (okCallV (y := yX8_set) (T := TX8) (oCallZ_is _ _ _) dL_change_148 rfl (ok_F_X8_set l) rc_F_X8_set rfl wn_2_108 wm_2_99 wm_2_100 wm_1_1 wm_2_101 pl_X8_set (by decide)) ?_
  refine And.intro (okIret dL_change_151 rfl) ?_
  refine And.intro (okAload_n dL_change_152 rfl rfl) ?_
  refine And.intro (okIconst dL_change_153 rfl (by first | rfl | decide)) ?_
  refine And.intro (okIload_n dL_change_154 rfl rfl) ?_
  refine And.intro (okSipush dL_change_155 rfl (by first | rfl | decide)) ?_
  refine And.intro (okCallS (y := yL_low) (oCallZ_is _ _ _) dL_change_158 rfl (ok_F_L_low l) wn_2_66 wn_2_67 wm_1_0 wn_2_68 pl_L_low (by decide)) ?_
  refine And.intro (okCallV (y := yX8_set) (T := TX8) (oCallZ_is _ _ _) dL_change_161 rfl (ok_F_X8_set l) rc_F_X8_set rfl wn_2_108 wm_2_99 wm_2_100 wm_1_1 wm_2_101 pl_X8_set (by decide)) ?_
  refine And.intro (okIret dL_change_164 rfl) ?_
  refine And.intro (okAload_n dL_change_165 rfl rfl) ?_
  refine And.intro (okIconst dL_change_166 rfl (by first | rfl | decide)) ?_
  refine And.intro (okIload_n dL_change_167 rfl rfl) ?_
  refine And.intro (okSipush dL_change_168 rfl (by first | rfl | decide)) ?_
  refine And.intro (okCallS (y := yL_low) (oCallZ_is _ _ _) dL_change_171 rfl (ok_F_L_low l) wn_2_66 wn_2_67 wm_1_0 wn_2_68 pl_L_low (by decide)) ?_
  refine And.intro (okCallV (y := yX8_set) (T := TX8) (oCallZ_is _ _ _) dL_change_174 rfl (ok_F_X8_set l) rc_F_X8_set rfl wn_2_108 wm_2_99 wm_2_100 wm_1_1 wm_2_101 pl_X8_set (by decide)) ?_
  refine And.intro (okIret dL_change_177 rfl) ?_
  refine And.intro (okIload_n dL_change_178 rfl rfl) ?_
  refine And.intro (okIconst dL_change_179 rfl (by first | rfl | decide)) ?_
  refine And.intro (okCallS (y := yL_low) (oCallZ_is _ _ _) dL_change_180 rfl (ok_F_L_low l) wn_2_66 wn_2_67 wm_1_0 wn_2_68 pl_L_low (by decide)) ?_
  refine And.intro (okIfne dL_change_183 rfl (by rfl)) ?_
  refine And.intro (okAload_n dL_change_186 rfl rfl) ?_
  refine And.intro (okIconst dL_change_187 rfl (by first | rfl | decide)) ?_
  refine And.intro (okIconst dL_change_188 rfl (by first | rfl | decide)) ?_
  refine And.intro (okIload_n dL_change_189 rfl rfl) ?_
  refine And.intro (okIconst dL_change_190 rfl (by first | rfl | decide)) ?_
  refine And.intro (okShr dL_change_191 rfl) ?_
  refine And.intro (okBipush dL_change_192 rfl (by first | rfl | decide)) ?_
  refine And.intro (okCallS (y := yL_low) (oCallZ_is _ _ _) dL_change_194 rfl (ok_F_L_low l) wn_2_66 wn_2_67 wm_1_0 wn_2_68 pl_L_low (by decide)) ?_
  refine And.intro (okAdd dL_change_197 rfl) ?_
  refine And.intro (okCallV (y := yX8_set) (T := TX8) (oCallZ_is _ _ _) dL_change_198 rfl (ok_F_X8_set l) rc_F_X8_set rfl wn_2_108 wm_2_99 wm_2_100 wm_1_1 wm_2_101 pl_X8_set (by decide)) ?_
  refine And.intro (okGoto dL_change_201 (by rfl)) ?_
  refine And.intro (okAload_n dL_change_204 rfl rfl) ?_
  refine And.intro (okBipush dL_change_205 rfl (by first | rfl | decide)) ?_
  refine And.intro (okIload_n dL_change_207 rfl rfl) ?_
  refine And.intro (okIconst dL_change_208 rfl (by first | rfl | decide)) ?_
  refine And.intro (okShr dL_change_209 rfl) ?_
  refine And.intro (okBipush dL_change_210 rfl (by first | rfl | decide)) ?_
  refine And.intro (okCallS (y := yL_low) (oCallZ_is _ _ _) dL_change_212 rfl (ok_F_L_low l) wn_2_66 wn_2_67 wm_1_0 wn_2_68 pl_L_low (by decide)) ?_
  refine And.intro (okCallV (y := yX8_set) (T := TX8) (oCallZ_is _ _ _) dL_change_215 rfl (ok_F_X8_set l) rc_F_X8_set rfl wn_2_108 wm_2_99 wm_2_100 wm_1_1 wm_2_101 pl_X8_set (by decide)) ?_
  refine And.intro (okIret dL_change_218 rfl) ?_
  refine And.intro (okIload_n dL_change_219 rfl rfl) ?_
  refine And.intro (okIconst dL_change_220 rfl (by first | rfl | decide)) ?_
  refine And.intro (okCallS (y := yL_low) (oCallZ_is _ _ _) dL_change_221 rfl (ok_F_L_low l) wn_2_66 wn_2_67 wm_1_0 wn_2_68 pl_L_low (by decide)) ?_
  refine And.intro (okIfne dL_change_224 rfl (by rfl)) ?_
  refine And.intro (okAload_n dL_change_227 rfl rfl) ?_
  refine And.intro (okIconst dL_change_228 rfl (by first | rfl | decide)) ?_
  refine And.intro (okIload_n dL_change_229 rfl rfl) ?_
  refine And.intro (okIconst dL_change_230 rfl (by first | rfl | decide)) ?_
  refine And.intro (okShr dL_change_231 rfl) ?_
  refine And.intro (okBipush dL_change_232 rfl (by first | rfl | decide)) ?_
  refine And.intro (okCallS (y := yL_low) (oCallZ_is _ _ _) dL_change_234 rfl (ok_F_L_low l) wn_2_66 wn_2_67 wm_1_0 wn_2_68 pl_L_low (by decide)) ?_
  refine And.intro (okCallV (y := yX8_set) (T := TX8) (oCallZ_is _ _ _) dL_change_237 rfl (ok_F_X8_set l) rc_F_X8_set rfl wn_2_108 wm_2_99 wm_2_100 wm_1_1 wm_2_101 pl_X8_set (by decide)) ?_
  refine And.intro (okGoto dL_change_240 (by rfl)) ?_
  refine And.intro (okAload_n dL_change_243 rfl rfl) ?_
  refine And.intro (okBipush dL_change_244 rfl (by first | rfl | decide)) ?_
  refine And.intro (okIload_n dL_change_246 rfl rfl) ?_
  refine And.intro (okIconst dL_change_247 rfl (by first | rfl | decide)) ?_
  refine And.intro (okShr dL_change_248 rfl) ?_
  refine And.intro (okSipush dL_change_249 rfl (by first | rfl | decide)) ?_
  refine And.intro (okCallS (y := yL_low) (oCallZ_is _ _ _) dL_change_252 rfl (ok_F_L_low l) wn_2_66 wn_2_67 wm_1_0 wn_2_68 pl_L_low (by decide)) ?_
  refine And.intro (okCallV (y := yX8_set) (T := TX8) (oCallZ_is _ _ _) dL_change_255 rfl (ok_F_X8_set l) rc_F_X8_set rfl wn_2_108 wm_2_99 wm_2_100 wm_1_1 wm_2_101 pl_X8_set (by decide)) ?_
  refine And.intro (okIret dL_change_258 rfl) ?_
  refine And.intro (okAload_n dL_change_259 rfl rfl) ?_
  refine And.intro (okIconst dL_change_260 rfl (by first | rfl | decide)) ?_
  refine And.intro (okIload_n dL_change_261 rfl rfl) ?_
  refine And.intro (okBipush dL_change_262 rfl (by first | rfl | decide)) ?_
  refine And.intro (okCallS (y := yL_low) (oCallZ_is _ _ _) dL_change_264 rfl (ok_F_L_low l) wn_2_66 wn_2_67 wm_1_0 wn_2_68 pl_L_low (by decide)) ?_
  refine And.intro (okAdd dL_change_267 rfl) ?_
  refine And.intro (okCallV (y := yX8_tear) (T := TX8) (oCallZ_is _ _ _) dL_change_268 rfl (ok_F_X8_tear l) rc_F_X8_tear rfl wn_2_116 wm_2_107 wm_2_108 wm_1_1 wm_2_109 pl_X8_tear (by decide)) ?_
  refine And.intro (okIret dL_change_271 rfl) ?_
  refine And.intro (okAload_n dL_change_272 rfl rfl) ?_
  refine And.intro (okIload_n dL_change_273 rfl rfl) ?_
  refine And.intro (okIconst dL_change_274 rfl (by first | rfl | decide)) ?_
  refine And.intro (okCallS (y := yL_low) (oCallZ_is _ _ _) dL_change_275 rfl (ok_F_L_low l) wn_2_66 wn_2_67 wm_1_0 wn_2_68 pl_L_low (by decide)) ?_
  refine And.intro (okCallV (y := yX8_change) (T := TX8) (oCallZ_is _ _ _) dL_change_278 rfl (ok_F_X8_change l) rc_F_X8_change rfl wn_2_127 wm_2_118 wm_2_119 wm_1_1 wm_2_120 pl_X8_change (by decide)) ?_
  refine And.intro (okIret dL_change_281 rfl) ?_
  refine And.intro (okAload_n dL_change_282 rfl rfl) ?_
  refine And.intro (okIload_n dL_change_283 rfl rfl) ?_
  refine And.intro (okIconst dL_change_284 rfl (by first | rfl | decide)) ?_
  refine And.intro (okCallS (y := yL_low) (oCallZ_is _ _ _) dL_change_285 rfl (ok_F_L_low l) wn_2_66 wn_2_67 wm_1_0 wn_2_68 pl_L_low (by decide)) ?_
  refine And.intro (okIload_n dL_change_288 rfl rfl) ?_
  refine And.intro (okIconst dL_change_289 rfl (by first | rfl | decide)) ?_
  refine And.intro (okShr dL_change_290 rfl) ?_
  refine And.intro (okSipush dL_change_291 rfl (by first | rfl | decide)) ?_
  refine And.intro (okCallS (y := yL_low) (oCallZ_is _ _ _) dL_change_294 rfl (ok_F_L_low l) wn_2_66 wn_2_67 wm_1_0 wn_2_68 pl_L_low (by decide)) ?_
  refine And.intro (okIload_n dL_change_297 rfl rfl) ?_
  refine And.intro (okIconst dL_change_298 rfl (by first | rfl | decide)) ?_
  refine And.intro (okShr dL_change_299 rfl) ?_
  refine And.intro (okIload_n dL_change_300 rfl rfl) ?_
  refine And.intro (okBipush dL_change_301 rfl (by first | rfl | decide)) ?_
  refine And.intro (okShr dL_change_303 rfl) ?_
  refine And.intro (okIconst dL_change_304 rfl (by first | rfl | decide)) ?_
  refine And.intro (okCallS (y := yL_low) (oCallZ_is _ _ _) dL_change_305 rfl (ok_F_L_low l) wn_2_66 wn_2_67 wm_1_0 wn_2_68 pl_L_low (by decide)) ?_
  refine And.intro (okIfne dL_change_308 rfl (by rfl)) ?_
  refine And.intro (okLdc dL_change_311 rfl wn_2_135) ?_
  refine And.intro (okGoto dL_change_313 (by rfl)) ?_
  refine And.intro (okSipush dL_change_316 rfl (by first | rfl | decide)) ?_
  refine And.intro (okCallS (y := yL_low) (oCallZ_is _ _ _) dL_change_319 rfl (ok_F_L_low l) wn_2_66 wn_2_67 wm_1_0 wn_2_68 pl_L_low (by decide)) ?_
  refine And.intro (okCallV (y := yX8_fill) (T := TX8) (oCallZ_is _ _ _) dL_change_322 rfl (ok_F_X8_fill l) rc_F_X8_fill rfl wn_2_136 wm_2_126 wm_2_127 wm_1_1 wm_2_128 pl_X8_fill (by decide)) ?_
  refine And.intro (okIret dL_change_325 rfl) ?_
  refine And.intro (okAload_n dL_change_326 rfl rfl) ?_
  refine And.intro (okIload_n dL_change_327 rfl rfl) ?_
  refine And.intro (okIconst dL_change_328 rfl (by first | rfl | decide)) ?_
  refine And.intro (okCallS (y := yL_low) (oCallZ_is _ _ _) dL_change_329 rfl (ok_F_L_low l) wn_2_66 wn_2_67 wm_1_0 wn_2_68 pl_L_low (by decide)) ?_
  refine And.intro (okIconst dL_change_332 rfl (by first | rfl | decide)) ?_
  refine And.intro (okIload_n dL_change_333 rfl rfl) ?_
  refine And.intro (okIconst dL_change_334 rfl (by first | rfl | decide)) ?_
  refine And.intro (okShr dL_change_335 rfl) ?_
  refine And.intro (okSipush dL_change_336 rfl (by first | rfl | decide)) ?_
  refine And.intro (okCallS (y := yL_low) (oCallZ_is _ _ _) dL_change_339 rfl (ok_F_L_low l) wn_2_66 wn_2_67 wm_1_0 wn_2_68 pl_L_low (by decide)) ?_
  refine And.intro (okAdd dL_change_342 rfl) ?_
  refine And.intro (okCallV (y := yX8_drain) (T := TX8) (oCallZ_is _ _ _) dL_change_343 rfl (ok_F_X8_drain l) rc_F_X8_drain rfl wn_2_157 wm_2_147 wm_2_148 wm_1_1 wm_2_149 pl_X8_drain (by decide)) ?_
  refine And.intro (okIret dL_change_346 rfl) ?_
  refine And.intro (okAload_n dL_change_347 rfl rfl) ?_
  refine And.intro (okIload_n dL_change_348 rfl rfl) ?_
  refine And.intro (okIload_n dL_change_349 rfl rfl) ?_
  refine And.intro (okCallS (y := yL_plan) (oCallZ_is _ _ _) dL_change_350 rfl (ok_F_L_plan l) wn_2_167 wn_2_168 wm_1_0 wn_2_169 pl_L_plan (by decide)) ?_
  refine And.intro (okIret dL_change_353 rfl) ?_
  refine And.intro (okAload_n dL_change_354 rfl rfl) ?_
  refine And.intro (okCallV (y := yX8_undo) (T := TX8) (oCallZ_is _ _ _) dL_change_355 rfl (ok_F_X8_undo l) rc_F_X8_undo rfl wn_2_230 wm_3_43 wm_3_44 wm_1_1 wm_3_45 pl_X8_undo (by decide)) ?_
  refine And.intro (okIret dL_change_358 rfl) ?_
  refine And.intro (okIload_n dL_change_359 rfl rfl) ?_
  refine And.intro (okIconst dL_change_360 rfl (by first | rfl | decide)) ?_
  refine And.intro (okCallS (y := yL_low) (oCallZ_is _ _ _) dL_change_361 rfl (ok_F_L_low l) wn_2_66 wn_2_67 wm_1_0 wn_2_68 pl_L_low (by decide)) ?_
  refine And.intro (okIfne dL_change_364 rfl (by rfl)) ?_
  refine And.intro (okAload_n dL_change_367 rfl rfl) ?_
  refine And.intro (okIload_n dL_change_368 rfl rfl) ?_
  refine And.intro (okIconst dL_change_369 rfl (by first | rfl | decide)) ?_
  refine And.intro (okShr dL_change_370 rfl) ?_
  refine And.intro (okIconst dL_change_371 rfl (by first | rfl | decide)) ?_
  refine And.intro (okCallS (y := yL_low) (oCallZ_is _ _ _) dL_change_372 rfl (ok_F_L_low l) wn_2_66 wn_2_67 wm_1_0 wn_2_68 pl_L_low (by decide)) ?_
  refine And.intro (okCallV (y := yX8_keep) (T := TX8) (oCallZ_is _ _ _) dL_change_375 rfl (ok_F_X8_keep l) rc_F_X8_keep rfl wn_2_238 wm_3_120 wm_3_121 wm_1_1 wm_3_122 pl_X8_keep (by decide)) ?_
  refine And.intro (okGoto dL_change_378 (by rfl)) ?_
  refine And.intro (okAload_n dL_change_381 rfl rfl) ?_
  refine And.intro (okIload_n dL_change_382 rfl rfl) ?_
  refine And.intro (okIconst dL_change_383 rfl (by first | rfl | decide)) ?_
  refine And.intro (okShr dL_change_384 rfl) ?_
  refine And.intro (okIconst dL_change_385 rfl (by first | rfl | decide)) ?_
  refine And.intro (okCallS (y := yL_low) (oCallZ_is _ _ _) dL_change_386 rfl (ok_F_L_low l) wn_2_66 wn_2_67 wm_1_0 wn_2_68 pl_L_low (by decide)) ?_
  refine And.intro (okCallV (y := yX8_back) (T := TX8) (oCallZ_is _ _ _) dL_change_389 rfl (ok_F_X8_back l) rc_F_X8_back rfl wn_3_7 wm_3_128 wm_3_129 wm_1_1 wm_3_130 pl_X8_back (by decide)) ?_
  refine And.intro (okIret dL_change_392 rfl) ?_
  refine And.intro (okAload_n dL_change_393 rfl rfl) ?_
  refine And.intro (okIconst dL_change_394 rfl (by first | rfl | decide)) ?_
  refine And.intro (okIload_n dL_change_395 rfl rfl) ?_
  refine And.intro (okIload_n dL_change_396 rfl rfl) ?_
  refine And.intro (okBipush dL_change_397 rfl (by first | rfl | decide)) ?_
  refine And.intro (okShr dL_change_399 rfl) ?_
  refine And.intro (okIconst dL_change_400 rfl (by first | rfl | decide)) ?_
  refine And.intro (okCallS (y := yL_low) (oCallZ_is _ _ _) dL_change_401 rfl (ok_F_L_low l) wn_2_66 wn_2_67 wm_1_0 wn_2_68 pl_L_low (by decide)) ?_
  refine And.intro (okIfne dL_change_404 rfl (by rfl)) ?_
  refine And.intro (okBipush dL_change_407 rfl (by first | rfl | decide)) ?_
  refine And.intro (okGoto dL_change_409 (by rfl)) ?_
  refine And.intro (okBipush dL_change_412 rfl (by first | rfl | decide)) ?_
  refine And.intro (okCallS (y := yL_low) (oCallZ_is _ _ _) dL_change_414 rfl (ok_F_L_low l) wn_2_66 wn_2_67 wm_1_0 wn_2_68 pl_L_low (by decide)) ?_
  refine And.intro (okAdd dL_change_417 rfl) ?_
  refine And.intro (okCallV (y := yX8_run) (T := TX8) (oCallZ_is _ _ _) dL_change_418 rfl (ok_F_X8_run l) rc_F_X8_run rfl wn_3_11 wm_2_206 wm_2_207 wm_1_1 wm_2_208 pl_X8_run (by decide)) ?_
  refine And.intro (okIret dL_change_421 rfl) ?_
  exact trivial
theorem unB_at {X : Type} (f : Nat → Option Nat) (x v u : pLV) (c : (Nat → Option Nat) → pLV → pLV → pLV → Option X) : unB (cw f x v u) c = c f (NX x) (NL v) (NL u) := rfl
def chG (o : Option pOut) (f : Nat → Option Nat) (rg : pRg) (a : Int32) : Option pOut := match o with
  | some (some (.int r), w', rg') => unB w' (fun _ _ _ _ => pif (bOK f rg ∧ rg'.1 = rg.1 ∧ ¬ lowI a 22 = 14) (some (some (Value.int r), w', rg')) none)
  | _ => none
def F_L_change : pF := fun args w rg => match args with
  | [.ref 0, .int a, .int b] => unB w (fun f x v u => chG ((chF a b).1 (.ref 0 :: (chF a b).2) w rg) f rg a)
  | _ => none
set_option maxHeartbeats 400000 in
theorem ch_0_0 (rg : pRg) (f : Nat → Option Nat) (x v u : pLV) (a b r : Int32) (w' : pWd) (rg' : pRg) (n0 : lowI a 22 = 0) (g0 : lowI b 5 = 0) (h : F_X8_begin [.ref 0] (cw f x v u) rg = some (some (.int r), w', rg')) (hl : Nat.beq w'.length (cw f x v u).length = true) : ∃ fu, ex k_L_change fu 0 [(0, .ref 0), (1, .int a), (2, .int b)] [] (cw f x v u) rg = some (some (.int r), w', rg') := by
  refine ⟨4, ?_⟩
  conv => lhs; whnf
  refine (callK_r (cl_L_low _ _ _ _ (Nat.le_of_ble_eq_true rfl) (by decide)) (by rfl)).trans ?_
  conv => lhs; whnf
  refine (pif_t n0).trans ?_
  conv => lhs; whnf
  refine (callK_r (cl_L_low _ _ _ _ (Nat.le_of_ble_eq_true rfl) (by decide)) (by rfl)).trans ?_
  conv => lhs; whnf
  refine (pif_t g0).trans ?_
  conv => lhs; whnf
  refine (callK_r h hl).trans ?_
  rfl
set_option maxHeartbeats 400000 in
theorem ch_0_1 (rg : pRg) (f : Nat → Option Nat) (x v u : pLV) (a b r : Int32) (w' : pWd) (rg' : pRg) (n0 : lowI a 22 = 0) (g0 : ¬ lowI b 5 = 0) (h : F_X8_set [.ref 0, .int (8), .int (lowI b 21)] (cw f x v u) rg = some (some (.int r), w', rg')) (hl : Nat.beq w'.length (cw f x v u).length = true) : ∃ fu, ex k_L_change fu 0 [(0, .ref 0), (1, .int a), (2, .int b)] [] (cw f x v u) rg = some (some (.int r), w', rg') := by
  refine ⟨4, ?_⟩
  conv => lhs; whnf
  refine (callK_r (cl_L_low _ _ _ _ (Nat.le_of_ble_eq_true rfl) (by decide)) (by rfl)).trans ?_
  conv => lhs; whnf
  refine (pif_t n0).trans ?_
  conv => lhs; whnf
  refine (callK_r (cl_L_low _ _ _ _ (Nat.le_of_ble_eq_true rfl) (by decide)) (by rfl)).trans ?_
  conv => lhs; whnf
  refine (pif_f g0).trans ?_
  conv => lhs; whnf
  refine (callK_r (cl_L_low _ _ _ _ (Nat.le_of_ble_eq_true rfl) (by decide)) (by rfl)).trans ?_
  conv => lhs; whnf
  refine (callK_r h hl).trans ?_
  rfl
set_option maxHeartbeats 400000 in
theorem ch_1_0 (rg : pRg) (f : Nat → Option Nat) (x v u : pLV) (a b r : Int32) (w' : pWd) (rg' : pRg) (n0 : ¬ lowI a 22 = 0) (n1 : lowI a 22 = 1) (g0 : lowI b 2 = 0) (h : F_X8_set [.ref 0, .int (0), .int (lowI (b >>> ((1 : Int32) &&& 31)) 201)] (cw f x v u) rg = some (some (.int r), w', rg')) (hl : Nat.beq w'.length (cw f x v u).length = true) : ∃ fu, ex k_L_change fu 0 [(0, .ref 0), (1, .int a), (2, .int b)] [] (cw f x v u) rg = some (some (.int r), w', rg') := by
  refine ⟨4, ?_⟩
  conv => lhs; whnf
  refine (callK_r (cl_L_low _ _ _ _ (Nat.le_of_ble_eq_true rfl) (by decide)) (by rfl)).trans ?_
  conv => lhs; whnf
  refine (pif_f n0).trans ?_
  conv => lhs; whnf
  refine (pif_t n1).trans ?_
  conv => lhs; whnf
  refine (callK_r (cl_L_low _ _ _ _ (Nat.le_of_ble_eq_true rfl) (by decide)) (by rfl)).trans ?_
  conv => lhs; whnf
  refine (pif_t g0).trans ?_
  conv => lhs; whnf
  refine (callK_r (cl_L_low _ _ _ _ (Nat.le_of_ble_eq_true rfl) (by decide)) (by rfl)).trans ?_
  conv => lhs; whnf
  refine (callK_r h hl).trans ?_
  rfl
set_option maxHeartbeats 400000 in
theorem ch_1_1 (rg : pRg) (f : Nat → Option Nat) (x v u : pLV) (a b r : Int32) (w' : pWd) (rg' : pRg) (n0 : ¬ lowI a 22 = 0) (n1 : lowI a 22 = 1) (g0 : ¬ lowI b 2 = 0) (h : F_X8_set [.ref 0, .int (1), .int (lowI (b >>> ((1 : Int32) &&& 31)) 3001)] (cw f x v u) rg = some (some (.int r), w', rg')) (hl : Nat.beq w'.length (cw f x v u).length = true) : ∃ fu, ex k_L_change fu 0 [(0, .ref 0), (1, .int a), (2, .int b)] [] (cw f x v u) rg = some (some (.int r), w', rg') := by
  refine ⟨4, ?_⟩
  conv => lhs; whnf
  refine (callK_r (cl_L_low _ _ _ _ (Nat.le_of_ble_eq_true rfl) (by decide)) (by rfl)).trans ?_
  conv => lhs; whnf
  refine (pif_f n0).trans ?_
  conv => lhs; whnf
  refine (pif_t n1).trans ?_
  conv => lhs; whnf
  refine (callK_r (cl_L_low _ _ _ _ (Nat.le_of_ble_eq_true rfl) (by decide)) (by rfl)).trans ?_
  conv => lhs; whnf
  refine (pif_f g0).trans ?_
  conv => lhs; whnf
  refine (callK_r (cl_L_low _ _ _ _ (Nat.le_of_ble_eq_true rfl) (by decide)) (by rfl)).trans ?_
  conv => lhs; whnf
  refine (callK_r h hl).trans ?_
  rfl
set_option maxHeartbeats 400000 in
theorem ch_2_0 (rg : pRg) (f : Nat → Option Nat) (x v u : pLV) (a b r : Int32) (w' : pWd) (rg' : pRg) (n0 : ¬ lowI a 22 = 0) (n1 : ¬ lowI a 22 = 1) (n2 : lowI a 22 = 2) (h : F_X8_set [.ref 0, .int (2), .int (lowI b 1500)] (cw f x v u) rg = some (some (.int r), w', rg')) (hl : Nat.beq w'.length (cw f x v u).length = true) : ∃ fu, ex k_L_change fu 0 [(0, .ref 0), (1, .int a), (2, .int b)] [] (cw f x v u) rg = some (some (.int r), w', rg') := by
  refine ⟨4, ?_⟩
  conv => lhs; whnf
  refine (callK_r (cl_L_low _ _ _ _ (Nat.le_of_ble_eq_true rfl) (by decide)) (by rfl)).trans ?_
  conv => lhs; whnf
  refine (pif_f n0).trans ?_
  conv => lhs; whnf
  refine (pif_f n1).trans ?_
  conv => lhs; whnf
  refine (pif_t n2).trans ?_
  conv => lhs; whnf
  refine (callK_r (cl_L_low _ _ _ _ (Nat.le_of_ble_eq_true rfl) (by decide)) (by rfl)).trans ?_
  conv => lhs; whnf
  refine (callK_r h hl).trans ?_
  rfl
set_option maxHeartbeats 400000 in
theorem ch_3_0 (rg : pRg) (f : Nat → Option Nat) (x v u : pLV) (a b r : Int32) (w' : pWd) (rg' : pRg) (n0 : ¬ lowI a 22 = 0) (n1 : ¬ lowI a 22 = 1) (n2 : ¬ lowI a 22 = 2) (n3 : lowI a 22 = 3) (h : F_X8_set [.ref 0, .int (3), .int (lowI b 1001)] (cw f x v u) rg = some (some (.int r), w', rg')) (hl : Nat.beq w'.length (cw f x v u).length = true) : ∃ fu, ex k_L_change fu 0 [(0, .ref 0), (1, .int a), (2, .int b)] [] (cw f x v u) rg = some (some (.int r), w', rg') := by
  refine ⟨4, ?_⟩
  conv => lhs; whnf
  refine (callK_r (cl_L_low _ _ _ _ (Nat.le_of_ble_eq_true rfl) (by decide)) (by rfl)).trans ?_
  conv => lhs; whnf
  refine (pif_f n0).trans ?_
  conv => lhs; whnf
  refine (pif_f n1).trans ?_
  conv => lhs; whnf
  refine (pif_f n2).trans ?_
  conv => lhs; whnf
  refine (pif_t n3).trans ?_
  conv => lhs; whnf
  refine (callK_r (cl_L_low _ _ _ _ (Nat.le_of_ble_eq_true rfl) (by decide)) (by rfl)).trans ?_
  conv => lhs; whnf
  refine (callK_r h hl).trans ?_
  rfl
set_option maxHeartbeats 400000 in
theorem ch_4_0 (rg : pRg) (f : Nat → Option Nat) (x v u : pLV) (a b r : Int32) (w' : pWd) (rg' : pRg) (n0 : ¬ lowI a 22 = 0) (n1 : ¬ lowI a 22 = 1) (n2 : ¬ lowI a 22 = 2) (n3 : ¬ lowI a 22 = 3) (n4 : lowI a 22 = 4) (g0 : lowI b 2 = 0) (h : F_X8_set [.ref 0, .int (4), .int ((1 : Int32) + lowI (b >>> ((1 : Int32) &&& 31)) 100)] (cw f x v u) rg = some (some (.int r), w', rg')) (hl : Nat.beq w'.length (cw f x v u).length = true) : ∃ fu, ex k_L_change fu 0 [(0, .ref 0), (1, .int a), (2, .int b)] [] (cw f x v u) rg = some (some (.int r), w', rg') := by
  refine ⟨4, ?_⟩
  conv => lhs; whnf
  refine (callK_r (cl_L_low _ _ _ _ (Nat.le_of_ble_eq_true rfl) (by decide)) (by rfl)).trans ?_
  conv => lhs; whnf
  refine (pif_f n0).trans ?_
  conv => lhs; whnf
  refine (pif_f n1).trans ?_
  conv => lhs; whnf
  refine (pif_f n2).trans ?_
  conv => lhs; whnf
  refine (pif_f n3).trans ?_
  conv => lhs; whnf
  refine (pif_t n4).trans ?_
  conv => lhs; whnf
  refine (callK_r (cl_L_low _ _ _ _ (Nat.le_of_ble_eq_true rfl) (by decide)) (by rfl)).trans ?_
  conv => lhs; whnf
  refine (pif_t g0).trans ?_
  conv => lhs; whnf
  refine (callK_r (cl_L_low _ _ _ _ (Nat.le_of_ble_eq_true rfl) (by decide)) (by rfl)).trans ?_
  conv => lhs; whnf
  refine (callK_r h hl).trans ?_
  rfl
set_option maxHeartbeats 400000 in
theorem ch_4_1 (rg : pRg) (f : Nat → Option Nat) (x v u : pLV) (a b r : Int32) (w' : pWd) (rg' : pRg) (n0 : ¬ lowI a 22 = 0) (n1 : ¬ lowI a 22 = 1) (n2 : ¬ lowI a 22 = 2) (n3 : ¬ lowI a 22 = 3) (n4 : lowI a 22 = 4) (g0 : ¬ lowI b 2 = 0) (h : F_X8_set [.ref 0, .int (6), .int (lowI (b >>> ((1 : Int32) &&& 31)) 51)] (cw f x v u) rg = some (some (.int r), w', rg')) (hl : Nat.beq w'.length (cw f x v u).length = true) : ∃ fu, ex k_L_change fu 0 [(0, .ref 0), (1, .int a), (2, .int b)] [] (cw f x v u) rg = some (some (.int r), w', rg') := by
  refine ⟨4, ?_⟩
  conv => lhs; whnf
  refine (callK_r (cl_L_low _ _ _ _ (Nat.le_of_ble_eq_true rfl) (by decide)) (by rfl)).trans ?_
  conv => lhs; whnf
  refine (pif_f n0).trans ?_
  conv => lhs; whnf
  refine (pif_f n1).trans ?_
  conv => lhs; whnf
  refine (pif_f n2).trans ?_
  conv => lhs; whnf
  refine (pif_f n3).trans ?_
  conv => lhs; whnf
  refine (pif_t n4).trans ?_
  conv => lhs; whnf
  refine (callK_r (cl_L_low _ _ _ _ (Nat.le_of_ble_eq_true rfl) (by decide)) (by rfl)).trans ?_
  conv => lhs; whnf
  refine (pif_f g0).trans ?_
  conv => lhs; whnf
  refine (callK_r (cl_L_low _ _ _ _ (Nat.le_of_ble_eq_true rfl) (by decide)) (by rfl)).trans ?_
  conv => lhs; whnf
  refine (callK_r h hl).trans ?_
  rfl
set_option maxHeartbeats 400000 in
theorem ch_5_0 (rg : pRg) (f : Nat → Option Nat) (x v u : pLV) (a b r : Int32) (w' : pWd) (rg' : pRg) (n0 : ¬ lowI a 22 = 0) (n1 : ¬ lowI a 22 = 1) (n2 : ¬ lowI a 22 = 2) (n3 : ¬ lowI a 22 = 3) (n4 : ¬ lowI a 22 = 4) (n5 : lowI a 22 = 5) (g0 : lowI b 2 = 0) (h : F_X8_set [.ref 0, .int (5), .int (lowI (b >>> ((1 : Int32) &&& 31)) 9)] (cw f x v u) rg = some (some (.int r), w', rg')) (hl : Nat.beq w'.length (cw f x v u).length = true) : ∃ fu, ex k_L_change fu 0 [(0, .ref 0), (1, .int a), (2, .int b)] [] (cw f x v u) rg = some (some (.int r), w', rg') := by
  refine ⟨4, ?_⟩
  conv => lhs; whnf
  refine (callK_r (cl_L_low _ _ _ _ (Nat.le_of_ble_eq_true rfl) (by decide)) (by rfl)).trans ?_
  conv => lhs; whnf
  refine (pif_f n0).trans ?_
  conv => lhs; whnf
  refine (pif_f n1).trans ?_
  conv => lhs; whnf
  refine (pif_f n2).trans ?_
  conv => lhs; whnf
  refine (pif_f n3).trans ?_
  conv => lhs; whnf
  refine (pif_f n4).trans ?_
  conv => lhs; whnf
  refine (pif_t n5).trans ?_
  conv => lhs; whnf
  refine (callK_r (cl_L_low _ _ _ _ (Nat.le_of_ble_eq_true rfl) (by decide)) (by rfl)).trans ?_
  conv => lhs; whnf
  refine (pif_t g0).trans ?_
  conv => lhs; whnf
  refine (callK_r (cl_L_low _ _ _ _ (Nat.le_of_ble_eq_true rfl) (by decide)) (by rfl)).trans ?_
  conv => lhs; whnf
  refine (callK_r h hl).trans ?_
  rfl
set_option maxHeartbeats 400000 in
theorem ch_5_1 (rg : pRg) (f : Nat → Option Nat) (x v u : pLV) (a b r : Int32) (w' : pWd) (rg' : pRg) (n0 : ¬ lowI a 22 = 0) (n1 : ¬ lowI a 22 = 1) (n2 : ¬ lowI a 22 = 2) (n3 : ¬ lowI a 22 = 3) (n4 : ¬ lowI a 22 = 4) (n5 : lowI a 22 = 5) (g0 : ¬ lowI b 2 = 0) (h : F_X8_set [.ref 0, .int (7), .int (lowI (b >>> ((1 : Int32) &&& 31)) 2001)] (cw f x v u) rg = some (some (.int r), w', rg')) (hl : Nat.beq w'.length (cw f x v u).length = true) : ∃ fu, ex k_L_change fu 0 [(0, .ref 0), (1, .int a), (2, .int b)] [] (cw f x v u) rg = some (some (.int r), w', rg') := by
  refine ⟨4, ?_⟩
  conv => lhs; whnf
  refine (callK_r (cl_L_low _ _ _ _ (Nat.le_of_ble_eq_true rfl) (by decide)) (by rfl)).trans ?_
  conv => lhs; whnf
  refine (pif_f n0).trans ?_
  conv => lhs; whnf
  refine (pif_f n1).trans ?_
  conv => lhs; whnf
  refine (pif_f n2).trans ?_
  conv => lhs; whnf
  refine (pif_f n3).trans ?_
  conv => lhs; whnf
  refine (pif_f n4).trans ?_
  conv => lhs; whnf
  refine (pif_t n5).trans ?_
  conv => lhs; whnf
  refine (callK_r (cl_L_low _ _ _ _ (Nat.le_of_ble_eq_true rfl) (by decide)) (by rfl)).trans ?_
  conv => lhs; whnf
  refine (pif_f g0).trans ?_
  conv => lhs; whnf
  refine (callK_r (cl_L_low _ _ _ _ (Nat.le_of_ble_eq_true rfl) (by decide)) (by rfl)).trans ?_
  conv => lhs; whnf
  refine (callK_r h hl).trans ?_
  rfl
set_option maxHeartbeats 400000 in
theorem ch_6_0 (rg : pRg) (f : Nat → Option Nat) (x v u : pLV) (a b r : Int32) (w' : pWd) (rg' : pRg) (n0 : ¬ lowI a 22 = 0) (n1 : ¬ lowI a 22 = 1) (n2 : ¬ lowI a 22 = 2) (n3 : ¬ lowI a 22 = 3) (n4 : ¬ lowI a 22 = 4) (n5 : ¬ lowI a 22 = 5) (n6 : lowI a 22 = 6) (h : F_X8_tear [.ref 0, .int ((1 : Int32) + lowI b 50)] (cw f x v u) rg = some (some (.int r), w', rg')) (hl : Nat.beq w'.length (cw f x v u).length = true) : ∃ fu, ex k_L_change fu 0 [(0, .ref 0), (1, .int a), (2, .int b)] [] (cw f x v u) rg = some (some (.int r), w', rg') := by
  refine ⟨4, ?_⟩
  conv => lhs; whnf
  refine (callK_r (cl_L_low _ _ _ _ (Nat.le_of_ble_eq_true rfl) (by decide)) (by rfl)).trans ?_
  conv => lhs; whnf
  refine (pif_f n0).trans ?_
  conv => lhs; whnf
  refine (pif_f n1).trans ?_
  conv => lhs; whnf
  refine (pif_f n2).trans ?_
  conv => lhs; whnf
  refine (pif_f n3).trans ?_
  conv => lhs; whnf
  refine (pif_f n4).trans ?_
  conv => lhs; whnf
  refine (pif_f n5).trans ?_
  conv => lhs; whnf
  refine (pif_t n6).trans ?_
  conv => lhs; whnf
  refine (callK_r (cl_L_low _ _ _ _ (Nat.le_of_ble_eq_true rfl) (by decide)) (by rfl)).trans ?_
  conv => lhs; whnf
  refine (callK_r h hl).trans ?_
  rfl
set_option maxHeartbeats 400000 in
theorem ch_7_0 (rg : pRg) (f : Nat → Option Nat) (x v u : pLV) (a b r : Int32) (w' : pWd) (rg' : pRg) (n0 : ¬ lowI a 22 = 0) (n1 : ¬ lowI a 22 = 1) (n2 : ¬ lowI a 22 = 2) (n3 : ¬ lowI a 22 = 3) (n4 : ¬ lowI a 22 = 4) (n5 : ¬ lowI a 22 = 5) (n6 : ¬ lowI a 22 = 6) (n7 : lowI a 22 = 7) (h : F_X8_tear [.ref 0, .int ((1 : Int32) + lowI b 50)] (cw f x v u) rg = some (some (.int r), w', rg')) (hl : Nat.beq w'.length (cw f x v u).length = true) : ∃ fu, ex k_L_change fu 0 [(0, .ref 0), (1, .int a), (2, .int b)] [] (cw f x v u) rg = some (some (.int r), w', rg') := by
  refine ⟨4, ?_⟩
  conv => lhs; whnf
  refine (callK_r (cl_L_low _ _ _ _ (Nat.le_of_ble_eq_true rfl) (by decide)) (by rfl)).trans ?_
  conv => lhs; whnf
  refine (pif_f n0).trans ?_
  conv => lhs; whnf
  refine (pif_f n1).trans ?_
  conv => lhs; whnf
  refine (pif_f n2).trans ?_
  conv => lhs; whnf
  refine (pif_f n3).trans ?_
  conv => lhs; whnf
  refine (pif_f n4).trans ?_
  conv => lhs; whnf
  refine (pif_f n5).trans ?_
  conv => lhs; whnf
  refine (pif_f n6).trans ?_
  conv => lhs; whnf
  refine (pif_t n7).trans ?_
  conv => lhs; whnf
  refine (callK_r (cl_L_low _ _ _ _ (Nat.le_of_ble_eq_true rfl) (by decide)) (by rfl)).trans ?_
  conv => lhs; whnf
  refine (callK_r h hl).trans ?_
  rfl
set_option maxHeartbeats 400000 in
theorem ch_8_0 (rg : pRg) (f : Nat → Option Nat) (x v u : pLV) (a b r : Int32) (w' : pWd) (rg' : pRg) (n0 : ¬ lowI a 22 = 0) (n1 : ¬ lowI a 22 = 1) (n2 : ¬ lowI a 22 = 2) (n3 : ¬ lowI a 22 = 3) (n4 : ¬ lowI a 22 = 4) (n5 : ¬ lowI a 22 = 5) (n6 : ¬ lowI a 22 = 6) (n7 : ¬ lowI a 22 = 7) (n8 : lowI a 22 = 8) (h : F_X8_change [.ref 0, .int (lowI b 4)] (cw f x v u) rg = some (some (.int r), w', rg')) (hl : Nat.beq w'.length (cw f x v u).length = true) : ∃ fu, ex k_L_change fu 0 [(0, .ref 0), (1, .int a), (2, .int b)] [] (cw f x v u) rg = some (some (.int r), w', rg') := by
  refine ⟨4, ?_⟩
  conv => lhs; whnf
  refine (callK_r (cl_L_low _ _ _ _ (Nat.le_of_ble_eq_true rfl) (by decide)) (by rfl)).trans ?_
  conv => lhs; whnf
  refine (pif_f n0).trans ?_
  conv => lhs; whnf
  refine (pif_f n1).trans ?_
  conv => lhs; whnf
  refine (pif_f n2).trans ?_
  conv => lhs; whnf
  refine (pif_f n3).trans ?_
  conv => lhs; whnf
  refine (pif_f n4).trans ?_
  conv => lhs; whnf
  refine (pif_f n5).trans ?_
  conv => lhs; whnf
  refine (pif_f n6).trans ?_
  conv => lhs; whnf
  refine (pif_f n7).trans ?_
  conv => lhs; whnf
  refine (pif_t n8).trans ?_
  conv => lhs; whnf
  refine (callK_r (cl_L_low _ _ _ _ (Nat.le_of_ble_eq_true rfl) (by decide)) (by rfl)).trans ?_
  conv => lhs; whnf
  refine (callK_r h hl).trans ?_
  rfl
set_option maxHeartbeats 400000 in
theorem ch_9_0 (rg : pRg) (f : Nat → Option Nat) (x v u : pLV) (a b r : Int32) (w' : pWd) (rg' : pRg) (n0 : ¬ lowI a 22 = 0) (n1 : ¬ lowI a 22 = 1) (n2 : ¬ lowI a 22 = 2) (n3 : ¬ lowI a 22 = 3) (n4 : ¬ lowI a 22 = 4) (n5 : ¬ lowI a 22 = 5) (n6 : ¬ lowI a 22 = 6) (n7 : ¬ lowI a 22 = 7) (n8 : ¬ lowI a 22 = 8) (n9 : lowI a 22 = 9) (h : F_X8_change [.ref 0, .int (lowI b 4)] (cw f x v u) rg = some (some (.int r), w', rg')) (hl : Nat.beq w'.length (cw f x v u).length = true) : ∃ fu, ex k_L_change fu 0 [(0, .ref 0), (1, .int a), (2, .int b)] [] (cw f x v u) rg = some (some (.int r), w', rg') := by
  refine ⟨4, ?_⟩
  conv => lhs; whnf
  refine (callK_r (cl_L_low _ _ _ _ (Nat.le_of_ble_eq_true rfl) (by decide)) (by rfl)).trans ?_
  conv => lhs; whnf
  refine (pif_f n0).trans ?_
  conv => lhs; whnf
  refine (pif_f n1).trans ?_
  conv => lhs; whnf
  refine (pif_f n2).trans ?_
  conv => lhs; whnf
  refine (pif_f n3).trans ?_
  conv => lhs; whnf
  refine (pif_f n4).trans ?_
  conv => lhs; whnf
  refine (pif_f n5).trans ?_
  conv => lhs; whnf
  refine (pif_f n6).trans ?_
  conv => lhs; whnf
  refine (pif_f n7).trans ?_
  conv => lhs; whnf
  refine (pif_f n8).trans ?_
  conv => lhs; whnf
  refine (pif_t n9).trans ?_
  conv => lhs; whnf
  refine (callK_r (cl_L_low _ _ _ _ (Nat.le_of_ble_eq_true rfl) (by decide)) (by rfl)).trans ?_
  conv => lhs; whnf
  refine (callK_r h hl).trans ?_
  rfl
set_option maxHeartbeats 400000 in
theorem ch_10_0 (rg : pRg) (f : Nat → Option Nat) (x v u : pLV) (a b r : Int32) (w' : pWd) (rg' : pRg) (n0 : ¬ lowI a 22 = 0) (n1 : ¬ lowI a 22 = 1) (n2 : ¬ lowI a 22 = 2) (n3 : ¬ lowI a 22 = 3) (n4 : ¬ lowI a 22 = 4) (n5 : ¬ lowI a 22 = 5) (n6 : ¬ lowI a 22 = 6) (n7 : ¬ lowI a 22 = 7) (n8 : ¬ lowI a 22 = 8) (n9 : ¬ lowI a 22 = 9) (n10 : lowI a 22 = 10) (g0 : lowI (b >>> ((20 : Int32) &&& 31)) 3 = 0) (h : F_X8_fill [.ref 0, .int (lowI b 4), .int (lowI (b >>> ((2 : Int32) &&& 31)) 5001), .int (lowI (b >>> ((5 : Int32) &&& 31)) 50001)] (cw f x v u) rg = some (some (.int r), w', rg')) (hl : Nat.beq w'.length (cw f x v u).length = true) : ∃ fu, ex k_L_change fu 0 [(0, .ref 0), (1, .int a), (2, .int b)] [] (cw f x v u) rg = some (some (.int r), w', rg') := by
  refine ⟨4, ?_⟩
  conv => lhs; whnf
  refine (callK_r (cl_L_low _ _ _ _ (Nat.le_of_ble_eq_true rfl) (by decide)) (by rfl)).trans ?_
  conv => lhs; whnf
  refine (pif_f n0).trans ?_
  conv => lhs; whnf
  refine (pif_f n1).trans ?_
  conv => lhs; whnf
  refine (pif_f n2).trans ?_
  conv => lhs; whnf
  refine (pif_f n3).trans ?_
  conv => lhs; whnf
  refine (pif_f n4).trans ?_
  conv => lhs; whnf
  refine (pif_f n5).trans ?_
  conv => lhs; whnf
  refine (pif_f n6).trans ?_
  conv => lhs; whnf
  refine (pif_f n7).trans ?_
  conv => lhs; whnf
  refine (pif_f n8).trans ?_
  conv => lhs; whnf
  refine (pif_f n9).trans ?_
  conv => lhs; whnf
  refine (pif_t n10).trans ?_
  conv => lhs; whnf
  refine (callK_r (cl_L_low _ _ _ _ (Nat.le_of_ble_eq_true rfl) (by decide)) (by rfl)).trans ?_
  conv => lhs; whnf
  refine (callK_r (cl_L_low _ _ _ _ (Nat.le_of_ble_eq_true rfl) (by decide)) (by rfl)).trans ?_
  conv => lhs; whnf
  refine (callK_r (cl_L_low _ _ _ _ (Nat.le_of_ble_eq_true rfl) (by decide)) (by rfl)).trans ?_
  conv => lhs; whnf
  refine (pif_t g0).trans ?_
  conv => lhs; whnf
  refine (callK_r (cl_L_low _ _ _ _ (Nat.le_of_ble_eq_true rfl) (by decide)) (by rfl)).trans ?_
  conv => lhs; whnf
  refine (callK_r h hl).trans ?_
  rfl
set_option maxHeartbeats 400000 in
theorem ch_10_1 (rg : pRg) (f : Nat → Option Nat) (x v u : pLV) (a b r : Int32) (w' : pWd) (rg' : pRg) (n0 : ¬ lowI a 22 = 0) (n1 : ¬ lowI a 22 = 1) (n2 : ¬ lowI a 22 = 2) (n3 : ¬ lowI a 22 = 3) (n4 : ¬ lowI a 22 = 4) (n5 : ¬ lowI a 22 = 5) (n6 : ¬ lowI a 22 = 6) (n7 : ¬ lowI a 22 = 7) (n8 : ¬ lowI a 22 = 8) (n9 : ¬ lowI a 22 = 9) (n10 : lowI a 22 = 10) (g0 : ¬ lowI (b >>> ((20 : Int32) &&& 31)) 3 = 0) (h : F_X8_fill [.ref 0, .int (lowI b 4), .int (lowI (b >>> ((2 : Int32) &&& 31)) 5001), .int (lowI (b >>> ((5 : Int32) &&& 31)) 5000)] (cw f x v u) rg = some (some (.int r), w', rg')) (hl : Nat.beq w'.length (cw f x v u).length = true) : ∃ fu, ex k_L_change fu 0 [(0, .ref 0), (1, .int a), (2, .int b)] [] (cw f x v u) rg = some (some (.int r), w', rg') := by
  refine ⟨4, ?_⟩
  conv => lhs; whnf
  refine (callK_r (cl_L_low _ _ _ _ (Nat.le_of_ble_eq_true rfl) (by decide)) (by rfl)).trans ?_
  conv => lhs; whnf
  refine (pif_f n0).trans ?_
  conv => lhs; whnf
  refine (pif_f n1).trans ?_
  conv => lhs; whnf
  refine (pif_f n2).trans ?_
  conv => lhs; whnf
  refine (pif_f n3).trans ?_
  conv => lhs; whnf
  refine (pif_f n4).trans ?_
  conv => lhs; whnf
  refine (pif_f n5).trans ?_
  conv => lhs; whnf
  refine (pif_f n6).trans ?_
  conv => lhs; whnf
  refine (pif_f n7).trans ?_
  conv => lhs; whnf
  refine (pif_f n8).trans ?_
  conv => lhs; whnf
  refine (pif_f n9).trans ?_
  conv => lhs; whnf
  refine (pif_t n10).trans ?_
  conv => lhs; whnf
  refine (callK_r (cl_L_low _ _ _ _ (Nat.le_of_ble_eq_true rfl) (by decide)) (by rfl)).trans ?_
  conv => lhs; whnf
  refine (callK_r (cl_L_low _ _ _ _ (Nat.le_of_ble_eq_true rfl) (by decide)) (by rfl)).trans ?_
  conv => lhs; whnf
  refine (callK_r (cl_L_low _ _ _ _ (Nat.le_of_ble_eq_true rfl) (by decide)) (by rfl)).trans ?_
  conv => lhs; whnf
  refine (pif_f g0).trans ?_
  conv => lhs; whnf
  refine (callK_r (cl_L_low _ _ _ _ (Nat.le_of_ble_eq_true rfl) (by decide)) (by rfl)).trans ?_
  conv => lhs; whnf
  refine (callK_r h hl).trans ?_
  rfl
set_option maxHeartbeats 400000 in
theorem ch_11_0 (rg : pRg) (f : Nat → Option Nat) (x v u : pLV) (a b r : Int32) (w' : pWd) (rg' : pRg) (n0 : ¬ lowI a 22 = 0) (n1 : ¬ lowI a 22 = 1) (n2 : ¬ lowI a 22 = 2) (n3 : ¬ lowI a 22 = 3) (n4 : ¬ lowI a 22 = 4) (n5 : ¬ lowI a 22 = 5) (n6 : ¬ lowI a 22 = 6) (n7 : ¬ lowI a 22 = 7) (n8 : ¬ lowI a 22 = 8) (n9 : ¬ lowI a 22 = 9) (n10 : ¬ lowI a 22 = 10) (n11 : lowI a 22 = 11) (h : F_X8_drain [.ref 0, .int (lowI b 4), .int ((1 : Int32) + lowI (b >>> ((2 : Int32) &&& 31)) 9000)] (cw f x v u) rg = some (some (.int r), w', rg')) (hl : Nat.beq w'.length (cw f x v u).length = true) : ∃ fu, ex k_L_change fu 0 [(0, .ref 0), (1, .int a), (2, .int b)] [] (cw f x v u) rg = some (some (.int r), w', rg') := by
  refine ⟨4, ?_⟩
  conv => lhs; whnf
  refine (callK_r (cl_L_low _ _ _ _ (Nat.le_of_ble_eq_true rfl) (by decide)) (by rfl)).trans ?_
  conv => lhs; whnf
  refine (pif_f n0).trans ?_
  conv => lhs; whnf
  refine (pif_f n1).trans ?_
  conv => lhs; whnf
  refine (pif_f n2).trans ?_
  conv => lhs; whnf
  refine (pif_f n3).trans ?_
  conv => lhs; whnf
  refine (pif_f n4).trans ?_
  conv => lhs; whnf
  refine (pif_f n5).trans ?_
  conv => lhs; whnf
  refine (pif_f n6).trans ?_
  conv => lhs; whnf
  refine (pif_f n7).trans ?_
  conv => lhs; whnf
  refine (pif_f n8).trans ?_
  conv => lhs; whnf
  refine (pif_f n9).trans ?_
  conv => lhs; whnf
  refine (pif_f n10).trans ?_
  conv => lhs; whnf
  refine (pif_t n11).trans ?_
  conv => lhs; whnf
  refine (callK_r (cl_L_low _ _ _ _ (Nat.le_of_ble_eq_true rfl) (by decide)) (by rfl)).trans ?_
  conv => lhs; whnf
  refine (callK_r (cl_L_low _ _ _ _ (Nat.le_of_ble_eq_true rfl) (by decide)) (by rfl)).trans ?_
  conv => lhs; whnf
  refine (callK_r h hl).trans ?_
  rfl
set_option maxHeartbeats 400000 in
theorem ch_12_0 (rg : pRg) (f : Nat → Option Nat) (x v u : pLV) (a b r : Int32) (w' : pWd) (rg' : pRg) (n0 : ¬ lowI a 22 = 0) (n1 : ¬ lowI a 22 = 1) (n2 : ¬ lowI a 22 = 2) (n3 : ¬ lowI a 22 = 3) (n4 : ¬ lowI a 22 = 4) (n5 : ¬ lowI a 22 = 5) (n6 : ¬ lowI a 22 = 6) (n7 : ¬ lowI a 22 = 7) (n8 : ¬ lowI a 22 = 8) (n9 : ¬ lowI a 22 = 9) (n10 : ¬ lowI a 22 = 10) (n11 : ¬ lowI a 22 = 11) (n12 : lowI a 22 = 12) (h : F_L_plan [.ref 0, .int (b), .int (a)] (cw f x v u) rg = some (some (.int r), w', rg')) (hl : Nat.beq w'.length (cw f x v u).length = true) : ∃ fu, ex k_L_change fu 0 [(0, .ref 0), (1, .int a), (2, .int b)] [] (cw f x v u) rg = some (some (.int r), w', rg') := by
  refine ⟨4, ?_⟩
  conv => lhs; whnf
  refine (callK_r (cl_L_low _ _ _ _ (Nat.le_of_ble_eq_true rfl) (by decide)) (by rfl)).trans ?_
  conv => lhs; whnf
  refine (pif_f n0).trans ?_
  conv => lhs; whnf
  refine (pif_f n1).trans ?_
  conv => lhs; whnf
  refine (pif_f n2).trans ?_
  conv => lhs; whnf
  refine (pif_f n3).trans ?_
  conv => lhs; whnf
  refine (pif_f n4).trans ?_
  conv => lhs; whnf
  refine (pif_f n5).trans ?_
  conv => lhs; whnf
  refine (pif_f n6).trans ?_
  conv => lhs; whnf
  refine (pif_f n7).trans ?_
  conv => lhs; whnf
  refine (pif_f n8).trans ?_
  conv => lhs; whnf
  refine (pif_f n9).trans ?_
  conv => lhs; whnf
  refine (pif_f n10).trans ?_
  conv => lhs; whnf
  refine (pif_f n11).trans ?_
  conv => lhs; whnf
  refine (pif_t n12).trans ?_
  conv => lhs; whnf
  refine (callK_r h hl).trans ?_
  rfl
set_option maxHeartbeats 400000 in
theorem ch_13_0 (rg : pRg) (f : Nat → Option Nat) (x v u : pLV) (a b r : Int32) (w' : pWd) (rg' : pRg) (n0 : ¬ lowI a 22 = 0) (n1 : ¬ lowI a 22 = 1) (n2 : ¬ lowI a 22 = 2) (n3 : ¬ lowI a 22 = 3) (n4 : ¬ lowI a 22 = 4) (n5 : ¬ lowI a 22 = 5) (n6 : ¬ lowI a 22 = 6) (n7 : ¬ lowI a 22 = 7) (n8 : ¬ lowI a 22 = 8) (n9 : ¬ lowI a 22 = 9) (n10 : ¬ lowI a 22 = 10) (n11 : ¬ lowI a 22 = 11) (n12 : ¬ lowI a 22 = 12) (n13 : lowI a 22 = 13) (h : F_L_plan [.ref 0, .int (b), .int (a)] (cw f x v u) rg = some (some (.int r), w', rg')) (hl : Nat.beq w'.length (cw f x v u).length = true) : ∃ fu, ex k_L_change fu 0 [(0, .ref 0), (1, .int a), (2, .int b)] [] (cw f x v u) rg = some (some (.int r), w', rg') := by
  refine ⟨4, ?_⟩
  conv => lhs; whnf
  refine (callK_r (cl_L_low _ _ _ _ (Nat.le_of_ble_eq_true rfl) (by decide)) (by rfl)).trans ?_
  conv => lhs; whnf
  refine (pif_f n0).trans ?_
  conv => lhs; whnf
  refine (pif_f n1).trans ?_
  conv => lhs; whnf
  refine (pif_f n2).trans ?_
  conv => lhs; whnf
  refine (pif_f n3).trans ?_
  conv => lhs; whnf
  refine (pif_f n4).trans ?_
  conv => lhs; whnf
  refine (pif_f n5).trans ?_
  conv => lhs; whnf
  refine (pif_f n6).trans ?_
  conv => lhs; whnf
  refine (pif_f n7).trans ?_
  conv => lhs; whnf
  refine (pif_f n8).trans ?_
  conv => lhs; whnf
  refine (pif_f n9).trans ?_
  conv => lhs; whnf
  refine (pif_f n10).trans ?_
  conv => lhs; whnf
  refine (pif_f n11).trans ?_
  conv => lhs; whnf
  refine (pif_f n12).trans ?_
  conv => lhs; whnf
  refine (pif_t n13).trans ?_
  conv => lhs; whnf
  refine (callK_r h hl).trans ?_
  rfl
set_option maxHeartbeats 400000 in
theorem ch_15_0 (rg : pRg) (f : Nat → Option Nat) (x v u : pLV) (a b r : Int32) (w' : pWd) (rg' : pRg) (n0 : ¬ lowI a 22 = 0) (n1 : ¬ lowI a 22 = 1) (n2 : ¬ lowI a 22 = 2) (n3 : ¬ lowI a 22 = 3) (n4 : ¬ lowI a 22 = 4) (n5 : ¬ lowI a 22 = 5) (n6 : ¬ lowI a 22 = 6) (n7 : ¬ lowI a 22 = 7) (n8 : ¬ lowI a 22 = 8) (n9 : ¬ lowI a 22 = 9) (n10 : ¬ lowI a 22 = 10) (n11 : ¬ lowI a 22 = 11) (n12 : ¬ lowI a 22 = 12) (n13 : ¬ lowI a 22 = 13) (n14 : ¬ lowI a 22 = 14) (n15 : lowI a 22 = 15) (g0 : lowI b 2 = 0) (h : F_X8_keep [.ref 0, .int (lowI (b >>> ((1 : Int32) &&& 31)) 2)] (cw f x v u) rg = some (some (.int r), w', rg')) (hl : Nat.beq w'.length (cw f x v u).length = true) : ∃ fu, ex k_L_change fu 0 [(0, .ref 0), (1, .int a), (2, .int b)] [] (cw f x v u) rg = some (some (.int r), w', rg') := by
  refine ⟨4, ?_⟩
  conv => lhs; whnf
  refine (callK_r (cl_L_low _ _ _ _ (Nat.le_of_ble_eq_true rfl) (by decide)) (by rfl)).trans ?_
  conv => lhs; whnf
  refine (pif_f n0).trans ?_
  conv => lhs; whnf
  refine (pif_f n1).trans ?_
  conv => lhs; whnf
  refine (pif_f n2).trans ?_
  conv => lhs; whnf
  refine (pif_f n3).trans ?_
  conv => lhs; whnf
  refine (pif_f n4).trans ?_
  conv => lhs; whnf
  refine (pif_f n5).trans ?_
  conv => lhs; whnf
  refine (pif_f n6).trans ?_
  conv => lhs; whnf
  refine (pif_f n7).trans ?_
  conv => lhs; whnf
  refine (pif_f n8).trans ?_
  conv => lhs; whnf
  refine (pif_f n9).trans ?_
  conv => lhs; whnf
  refine (pif_f n10).trans ?_
  conv => lhs; whnf
  refine (pif_f n11).trans ?_
  conv => lhs; whnf
  refine (pif_f n12).trans ?_
  conv => lhs; whnf
  refine (pif_f n13).trans ?_
  conv => lhs; whnf
  refine (pif_f n14).trans ?_
  conv => lhs; whnf
  refine (pif_t n15).trans ?_
  conv => lhs; whnf
  refine (callK_r (cl_L_low _ _ _ _ (Nat.le_of_ble_eq_true rfl) (by decide)) (by rfl)).trans ?_
  conv => lhs; whnf
  refine (pif_t g0).trans ?_
  conv => lhs; whnf
  refine (callK_r (cl_L_low _ _ _ _ (Nat.le_of_ble_eq_true rfl) (by decide)) (by rfl)).trans ?_
  conv => lhs; whnf
  refine (callK_r h hl).trans ?_
  rfl
set_option maxHeartbeats 400000 in
theorem ch_15_1 (rg : pRg) (f : Nat → Option Nat) (x v u : pLV) (a b r : Int32) (w' : pWd) (rg' : pRg) (n0 : ¬ lowI a 22 = 0) (n1 : ¬ lowI a 22 = 1) (n2 : ¬ lowI a 22 = 2) (n3 : ¬ lowI a 22 = 3) (n4 : ¬ lowI a 22 = 4) (n5 : ¬ lowI a 22 = 5) (n6 : ¬ lowI a 22 = 6) (n7 : ¬ lowI a 22 = 7) (n8 : ¬ lowI a 22 = 8) (n9 : ¬ lowI a 22 = 9) (n10 : ¬ lowI a 22 = 10) (n11 : ¬ lowI a 22 = 11) (n12 : ¬ lowI a 22 = 12) (n13 : ¬ lowI a 22 = 13) (n14 : ¬ lowI a 22 = 14) (n15 : lowI a 22 = 15) (g0 : ¬ lowI b 2 = 0) (h : F_X8_back [.ref 0, .int (lowI (b >>> ((1 : Int32) &&& 31)) 2)] (cw f x v u) rg = some (some (.int r), w', rg')) (hl : Nat.beq w'.length (cw f x v u).length = true) : ∃ fu, ex k_L_change fu 0 [(0, .ref 0), (1, .int a), (2, .int b)] [] (cw f x v u) rg = some (some (.int r), w', rg') := by
  refine ⟨4, ?_⟩
  conv => lhs; whnf
  refine (callK_r (cl_L_low _ _ _ _ (Nat.le_of_ble_eq_true rfl) (by decide)) (by rfl)).trans ?_
  conv => lhs; whnf
  refine (pif_f n0).trans ?_
  conv => lhs; whnf
  refine (pif_f n1).trans ?_
  conv => lhs; whnf
  refine (pif_f n2).trans ?_
  conv => lhs; whnf
  refine (pif_f n3).trans ?_
  conv => lhs; whnf
  refine (pif_f n4).trans ?_
  conv => lhs; whnf
  refine (pif_f n5).trans ?_
  conv => lhs; whnf
  refine (pif_f n6).trans ?_
  conv => lhs; whnf
  refine (pif_f n7).trans ?_
  conv => lhs; whnf
  refine (pif_f n8).trans ?_
  conv => lhs; whnf
  refine (pif_f n9).trans ?_
  conv => lhs; whnf
  refine (pif_f n10).trans ?_
  conv => lhs; whnf
  refine (pif_f n11).trans ?_
  conv => lhs; whnf
  refine (pif_f n12).trans ?_
  conv => lhs; whnf
  refine (pif_f n13).trans ?_
  conv => lhs; whnf
  refine (pif_f n14).trans ?_
  conv => lhs; whnf
  refine (pif_t n15).trans ?_
  conv => lhs; whnf
  refine (callK_r (cl_L_low _ _ _ _ (Nat.le_of_ble_eq_true rfl) (by decide)) (by rfl)).trans ?_
  conv => lhs; whnf
  refine (pif_f g0).trans ?_
  conv => lhs; whnf
  refine (callK_r (cl_L_low _ _ _ _ (Nat.le_of_ble_eq_true rfl) (by decide)) (by rfl)).trans ?_
  conv => lhs; whnf
  refine (callK_r h hl).trans ?_
  rfl
set_option maxHeartbeats 400000 in
theorem ch_16_0 (rg : pRg) (f : Nat → Option Nat) (x v u : pLV) (a b r : Int32) (w' : pWd) (rg' : pRg) (n0 : ¬ lowI a 22 = 0) (n1 : ¬ lowI a 22 = 1) (n2 : ¬ lowI a 22 = 2) (n3 : ¬ lowI a 22 = 3) (n4 : ¬ lowI a 22 = 4) (n5 : ¬ lowI a 22 = 5) (n6 : ¬ lowI a 22 = 6) (n7 : ¬ lowI a 22 = 7) (n8 : ¬ lowI a 22 = 8) (n9 : ¬ lowI a 22 = 9) (n10 : ¬ lowI a 22 = 10) (n11 : ¬ lowI a 22 = 11) (n12 : ¬ lowI a 22 = 12) (n13 : ¬ lowI a 22 = 13) (n14 : ¬ lowI a 22 = 14) (n15 : ¬ lowI a 22 = 15) (g0 : lowI (b >>> ((9 : Int32) &&& 31)) 4 = 0) (h : F_X8_run [.ref 0, .int ((1 : Int32) + lowI b 100)] (cw f x v u) rg = some (some (.int r), w', rg')) (hl : Nat.beq w'.length (cw f x v u).length = true) : ∃ fu, ex k_L_change fu 0 [(0, .ref 0), (1, .int a), (2, .int b)] [] (cw f x v u) rg = some (some (.int r), w', rg') := by
  refine ⟨4, ?_⟩
  conv => lhs; whnf
  refine (callK_r (cl_L_low _ _ _ _ (Nat.le_of_ble_eq_true rfl) (by decide)) (by rfl)).trans ?_
  conv => lhs; whnf
  refine (pif_f n0).trans ?_
  conv => lhs; whnf
  refine (pif_f n1).trans ?_
  conv => lhs; whnf
  refine (pif_f n2).trans ?_
  conv => lhs; whnf
  refine (pif_f n3).trans ?_
  conv => lhs; whnf
  refine (pif_f n4).trans ?_
  conv => lhs; whnf
  refine (pif_f n5).trans ?_
  conv => lhs; whnf
  refine (pif_f n6).trans ?_
  conv => lhs; whnf
  refine (pif_f n7).trans ?_
  conv => lhs; whnf
  refine (pif_f n8).trans ?_
  conv => lhs; whnf
  refine (pif_f n9).trans ?_
  conv => lhs; whnf
  refine (pif_f n10).trans ?_
  conv => lhs; whnf
  refine (pif_f n11).trans ?_
  conv => lhs; whnf
  refine (pif_f n12).trans ?_
  conv => lhs; whnf
  refine (pif_f n13).trans ?_
  conv => lhs; whnf
  refine (pif_f n14).trans ?_
  conv => lhs; whnf
  refine (pif_f n15).trans ?_
  conv => lhs; whnf
  refine (callK_r (cl_L_low _ _ _ _ (Nat.le_of_ble_eq_true rfl) (by decide)) (by rfl)).trans ?_
  conv => lhs; whnf
  refine (pif_t g0).trans ?_
  conv => lhs; whnf
  refine (callK_r (cl_L_low _ _ _ _ (Nat.le_of_ble_eq_true rfl) (by decide)) (by rfl)).trans ?_
  conv => lhs; whnf
  refine (callK_r h hl).trans ?_
  rfl
set_option maxHeartbeats 400000 in
theorem ch_16_1 (rg : pRg) (f : Nat → Option Nat) (x v u : pLV) (a b r : Int32) (w' : pWd) (rg' : pRg) (n0 : ¬ lowI a 22 = 0) (n1 : ¬ lowI a 22 = 1) (n2 : ¬ lowI a 22 = 2) (n3 : ¬ lowI a 22 = 3) (n4 : ¬ lowI a 22 = 4) (n5 : ¬ lowI a 22 = 5) (n6 : ¬ lowI a 22 = 6) (n7 : ¬ lowI a 22 = 7) (n8 : ¬ lowI a 22 = 8) (n9 : ¬ lowI a 22 = 9) (n10 : ¬ lowI a 22 = 10) (n11 : ¬ lowI a 22 = 11) (n12 : ¬ lowI a 22 = 12) (n13 : ¬ lowI a 22 = 13) (n14 : ¬ lowI a 22 = 14) (n15 : ¬ lowI a 22 = 15) (g0 : ¬ lowI (b >>> ((9 : Int32) &&& 31)) 4 = 0) (h : F_X8_run [.ref 0, .int ((1 : Int32) + lowI b 12)] (cw f x v u) rg = some (some (.int r), w', rg')) (hl : Nat.beq w'.length (cw f x v u).length = true) : ∃ fu, ex k_L_change fu 0 [(0, .ref 0), (1, .int a), (2, .int b)] [] (cw f x v u) rg = some (some (.int r), w', rg') := by
  refine ⟨4, ?_⟩
  conv => lhs; whnf
  refine (callK_r (cl_L_low _ _ _ _ (Nat.le_of_ble_eq_true rfl) (by decide)) (by rfl)).trans ?_
  conv => lhs; whnf
  refine (pif_f n0).trans ?_
  conv => lhs; whnf
  refine (pif_f n1).trans ?_
  conv => lhs; whnf
  refine (pif_f n2).trans ?_
  conv => lhs; whnf
  refine (pif_f n3).trans ?_
  conv => lhs; whnf
  refine (pif_f n4).trans ?_
  conv => lhs; whnf
  refine (pif_f n5).trans ?_
  conv => lhs; whnf
  refine (pif_f n6).trans ?_
  conv => lhs; whnf
  refine (pif_f n7).trans ?_
  conv => lhs; whnf
  refine (pif_f n8).trans ?_
  conv => lhs; whnf
  refine (pif_f n9).trans ?_
  conv => lhs; whnf
  refine (pif_f n10).trans ?_
  conv => lhs; whnf
  refine (pif_f n11).trans ?_
  conv => lhs; whnf
  refine (pif_f n12).trans ?_
  conv => lhs; whnf
  refine (pif_f n13).trans ?_
  conv => lhs; whnf
  refine (pif_f n14).trans ?_
  conv => lhs; whnf
  refine (pif_f n15).trans ?_
  conv => lhs; whnf
  refine (callK_r (cl_L_low _ _ _ _ (Nat.le_of_ble_eq_true rfl) (by decide)) (by rfl)).trans ?_
  conv => lhs; whnf
  refine (pif_f g0).trans ?_
  conv => lhs; whnf
  refine (callK_r (cl_L_low _ _ _ _ (Nat.le_of_ble_eq_true rfl) (by decide)) (by rfl)).trans ?_
  conv => lhs; whnf
  refine (callK_r h hl).trans ?_
  rfl
theorem run_L_change (rg : pRg) (f : Nat → Option Nat) (x v u : pLV) (a b r : Int32) (w' : pWd) (rg' : pRg) (n14 : ¬ lowI a 22 = 14) (h : (chF a b).1 (.ref 0 :: (chF a b).2) (cw f x v u) rg = some (some (.int r), w', rg')) (hl : Nat.beq w'.length (cw f x v u).length = true) : ∃ fu, ex k_L_change fu 0 [(0, .ref 0), (1, .int a), (2, .int b)] [] (cw f x v u) rg = some (some (.int r), w', rg') := by
  by_cases n0 : lowI a 22 = 0
  · by_cases g0 : lowI b 5 = 0
    · rw [show chF a b = (F_X8_begin, []) from (if_pos n0).trans (if_pos g0)] at h
      exact ch_0_0 rg f x v u a b r w' rg'  n0 g0 h hl
    · rw [show chF a b = (F_X8_set, [.int (8), .int (lowI b 21)]) from (if_pos n0).trans (if_neg g0)] at h
      exact ch_0_1 rg f x v u a b r w' rg'  n0 g0 h hl
  by_cases n1 : lowI a 22 = 1
  · by_cases g0 : lowI b 2 = 0
    · rw [show chF a b = (F_X8_set, [.int (0), .int (lowI (b >>> ((1 : Int32) &&& 31)) 201)]) from (if_neg n0).trans ((if_pos n1).trans (if_pos g0))] at h
      exact ch_1_0 rg f x v u a b r w' rg' n0 n1 g0 h hl
    · rw [show chF a b = (F_X8_set, [.int (1), .int (lowI (b >>> ((1 : Int32) &&& 31)) 3001)]) from (if_neg n0).trans ((if_pos n1).trans (if_neg g0))] at h
      exact ch_1_1 rg f x v u a b r w' rg' n0 n1 g0 h hl
  by_cases n2 : lowI a 22 = 2
  · rw [show chF a b = (F_X8_set, [.int (2), .int (lowI b 1500)]) from (if_neg n0).trans ((if_neg n1).trans ((if_pos n2).trans (rfl)))] at h
    exact ch_2_0 rg f x v u a b r w' rg' n0 n1 n2 h hl
  by_cases n3 : lowI a 22 = 3
  · rw [show chF a b = (F_X8_set, [.int (3), .int (lowI b 1001)]) from (if_neg n0).trans ((if_neg n1).trans ((if_neg n2).trans ((if_pos n3).trans (rfl))))] at h
    exact ch_3_0 rg f x v u a b r w' rg' n0 n1 n2 n3 h hl
  by_cases n4 : lowI a 22 = 4
  · by_cases g0 : lowI b 2 = 0
    · rw [show chF a b = (F_X8_set, [.int (4), .int ((1 : Int32) + lowI (b >>> ((1 : Int32) &&& 31)) 100)]) from (if_neg n0).trans ((if_neg n1).trans ((if_neg n2).trans ((if_neg n3).trans ((if_pos n4).trans (if_pos g0)))))] at h
      exact ch_4_0 rg f x v u a b r w' rg' n0 n1 n2 n3 n4 g0 h hl
    · rw [show chF a b = (F_X8_set, [.int (6), .int (lowI (b >>> ((1 : Int32) &&& 31)) 51)]) from (if_neg n0).trans ((if_neg n1).trans ((if_neg n2).trans ((if_neg n3).trans ((if_pos n4).trans (if_neg g0)))))] at h
      exact ch_4_1 rg f x v u a b r w' rg' n0 n1 n2 n3 n4 g0 h hl
  by_cases n5 : lowI a 22 = 5
  · by_cases g0 : lowI b 2 = 0
    · rw [show chF a b = (F_X8_set, [.int (5), .int (lowI (b >>> ((1 : Int32) &&& 31)) 9)]) from (if_neg n0).trans ((if_neg n1).trans ((if_neg n2).trans ((if_neg n3).trans ((if_neg n4).trans ((if_pos n5).trans (if_pos g0))))))] at h
      exact ch_5_0 rg f x v u a b r w' rg' n0 n1 n2 n3 n4 n5 g0 h hl
    · rw [show chF a b = (F_X8_set, [.int (7), .int (lowI (b >>> ((1 : Int32) &&& 31)) 2001)]) from (if_neg n0).trans ((if_neg n1).trans ((if_neg n2).trans ((if_neg n3).trans ((if_neg n4).trans ((if_pos n5).trans (if_neg g0))))))] at h
      exact ch_5_1 rg f x v u a b r w' rg' n0 n1 n2 n3 n4 n5 g0 h hl
  by_cases n6 : lowI a 22 = 6
  · rw [show chF a b = (F_X8_tear, [.int ((1 : Int32) + lowI b 50)]) from (if_neg n0).trans ((if_neg n1).trans ((if_neg n2).trans ((if_neg n3).trans ((if_neg n4).trans ((if_neg n5).trans ((if_pos n6).trans (rfl)))))))] at h
    exact ch_6_0 rg f x v u a b r w' rg' n0 n1 n2 n3 n4 n5 n6 h hl
  by_cases n7 : lowI a 22 = 7
  · rw [show chF a b = (F_X8_tear, [.int ((1 : Int32) + lowI b 50)]) from (if_neg n0).trans ((if_neg n1).trans ((if_neg n2).trans ((if_neg n3).trans ((if_neg n4).trans ((if_neg n5).trans ((if_neg n6).trans ((if_pos n7).trans (rfl))))))))] at h
    exact ch_7_0 rg f x v u a b r w' rg' n0 n1 n2 n3 n4 n5 n6 n7 h hl
  by_cases n8 : lowI a 22 = 8
  · rw [show chF a b = (F_X8_change, [.int (lowI b 4)]) from (if_neg n0).trans ((if_neg n1).trans ((if_neg n2).trans ((if_neg n3).trans ((if_neg n4).trans ((if_neg n5).trans ((if_neg n6).trans ((if_neg n7).trans ((if_pos n8).trans (rfl)))))))))] at h
    exact ch_8_0 rg f x v u a b r w' rg' n0 n1 n2 n3 n4 n5 n6 n7 n8 h hl
  by_cases n9 : lowI a 22 = 9
  · rw [show chF a b = (F_X8_change, [.int (lowI b 4)]) from (if_neg n0).trans ((if_neg n1).trans ((if_neg n2).trans ((if_neg n3).trans ((if_neg n4).trans ((if_neg n5).trans ((if_neg n6).trans ((if_neg n7).trans ((if_neg n8).trans ((if_pos n9).trans (rfl))))))))))] at h
    exact ch_9_0 rg f x v u a b r w' rg' n0 n1 n2 n3 n4 n5 n6 n7 n8 n9 h hl
  by_cases n10 : lowI a 22 = 10
  · by_cases g0 : lowI (b >>> ((20 : Int32) &&& 31)) 3 = 0
    · rw [show chF a b = (F_X8_fill, [.int (lowI b 4), .int (lowI (b >>> ((2 : Int32) &&& 31)) 5001), .int (lowI (b >>> ((5 : Int32) &&& 31)) 50001)]) from (if_neg n0).trans ((if_neg n1).trans ((if_neg n2).trans ((if_neg n3).trans ((if_neg n4).trans ((if_neg n5).trans ((if_neg n6).trans ((if_neg n7).trans ((if_neg n8).trans ((if_neg n9).trans ((if_pos n10).trans (if_pos g0)))))))))))] at h
      exact ch_10_0 rg f x v u a b r w' rg' n0 n1 n2 n3 n4 n5 n6 n7 n8 n9 n10 g0 h hl
    · rw [show chF a b = (F_X8_fill, [.int (lowI b 4), .int (lowI (b >>> ((2 : Int32) &&& 31)) 5001), .int (lowI (b >>> ((5 : Int32) &&& 31)) 5000)]) from (if_neg n0).trans ((if_neg n1).trans ((if_neg n2).trans ((if_neg n3).trans ((if_neg n4).trans ((if_neg n5).trans ((if_neg n6).trans ((if_neg n7).trans ((if_neg n8).trans ((if_neg n9).trans ((if_pos n10).trans (if_neg g0)))))))))))] at h
      exact ch_10_1 rg f x v u a b r w' rg' n0 n1 n2 n3 n4 n5 n6 n7 n8 n9 n10 g0 h hl
  by_cases n11 : lowI a 22 = 11
  · rw [show chF a b = (F_X8_drain, [.int (lowI b 4), .int ((1 : Int32) + lowI (b >>> ((2 : Int32) &&& 31)) 9000)]) from (if_neg n0).trans ((if_neg n1).trans ((if_neg n2).trans ((if_neg n3).trans ((if_neg n4).trans ((if_neg n5).trans ((if_neg n6).trans ((if_neg n7).trans ((if_neg n8).trans ((if_neg n9).trans ((if_neg n10).trans ((if_pos n11).trans (rfl))))))))))))] at h
    exact ch_11_0 rg f x v u a b r w' rg' n0 n1 n2 n3 n4 n5 n6 n7 n8 n9 n10 n11 h hl
  by_cases n12 : lowI a 22 = 12
  · rw [show chF a b = (F_L_plan, [.int (b), .int (a)]) from (if_neg n0).trans ((if_neg n1).trans ((if_neg n2).trans ((if_neg n3).trans ((if_neg n4).trans ((if_neg n5).trans ((if_neg n6).trans ((if_neg n7).trans ((if_neg n8).trans ((if_neg n9).trans ((if_neg n10).trans ((if_neg n11).trans ((if_pos n12).trans (rfl)))))))))))))] at h
    exact ch_12_0 rg f x v u a b r w' rg' n0 n1 n2 n3 n4 n5 n6 n7 n8 n9 n10 n11 n12 h hl
  by_cases n13 : lowI a 22 = 13
  · rw [show chF a b = (F_L_plan, [.int (b), .int (a)]) from (if_neg n0).trans ((if_neg n1).trans ((if_neg n2).trans ((if_neg n3).trans ((if_neg n4).trans ((if_neg n5).trans ((if_neg n6).trans ((if_neg n7).trans ((if_neg n8).trans ((if_neg n9).trans ((if_neg n10).trans ((if_neg n11).trans ((if_neg n12).trans ((if_pos n13).trans (rfl))))))))))))))] at h
    exact ch_13_0 rg f x v u a b r w' rg' n0 n1 n2 n3 n4 n5 n6 n7 n8 n9 n10 n11 n12 n13 h hl
  by_cases n15 : lowI a 22 = 15
  · by_cases g0 : lowI b 2 = 0
    · rw [show chF a b = (F_X8_keep, [.int (lowI (b >>> ((1 : Int32) &&& 31)) 2)]) from (if_neg n0).trans ((if_neg n1).trans ((if_neg n2).trans ((if_neg n3).trans ((if_neg n4).trans ((if_neg n5).trans ((if_neg n6).trans ((if_neg n7).trans ((if_neg n8).trans ((if_neg n9).trans ((if_neg n10).trans ((if_neg n11).trans ((if_neg n12).trans ((if_neg n13).trans ((if_pos n15).trans (if_pos g0)))))))))))))))] at h
      exact ch_15_0 rg f x v u a b r w' rg' n0 n1 n2 n3 n4 n5 n6 n7 n8 n9 n10 n11 n12 n13 n14 n15 g0 h hl
    · rw [show chF a b = (F_X8_back, [.int (lowI (b >>> ((1 : Int32) &&& 31)) 2)]) from (if_neg n0).trans ((if_neg n1).trans ((if_neg n2).trans ((if_neg n3).trans ((if_neg n4).trans ((if_neg n5).trans ((if_neg n6).trans ((if_neg n7).trans ((if_neg n8).trans ((if_neg n9).trans ((if_neg n10).trans ((if_neg n11).trans ((if_neg n12).trans ((if_neg n13).trans ((if_pos n15).trans (if_neg g0)))))))))))))))] at h
      exact ch_15_1 rg f x v u a b r w' rg' n0 n1 n2 n3 n4 n5 n6 n7 n8 n9 n10 n11 n12 n13 n14 n15 g0 h hl
  by_cases g0 : lowI (b >>> ((9 : Int32) &&& 31)) 4 = 0
  · rw [show chF a b = (F_X8_run, [.int ((1 : Int32) + lowI b 100)]) from (if_neg n0).trans ((if_neg n1).trans ((if_neg n2).trans ((if_neg n3).trans ((if_neg n4).trans ((if_neg n5).trans ((if_neg n6).trans ((if_neg n7).trans ((if_neg n8).trans ((if_neg n9).trans ((if_neg n10).trans ((if_neg n11).trans ((if_neg n12).trans ((if_neg n13).trans ((if_neg n15).trans (if_pos g0)))))))))))))))] at h
    exact ch_16_0 rg f x v u a b r w' rg' n0 n1 n2 n3 n4 n5 n6 n7 n8 n9 n10 n11 n12 n13 n14 n15 g0 h hl
  · rw [show chF a b = (F_X8_run, [.int ((1 : Int32) + lowI b 12)]) from (if_neg n0).trans ((if_neg n1).trans ((if_neg n2).trans ((if_neg n3).trans ((if_neg n4).trans ((if_neg n5).trans ((if_neg n6).trans ((if_neg n7).trans ((if_neg n8).trans ((if_neg n9).trans ((if_neg n10).trans ((if_neg n11).trans ((if_neg n12).trans ((if_neg n13).trans ((if_neg n15).trans (if_neg g0)))))))))))))))] at h
    exact ch_16_1 rg f x v u a b r w' rg' n0 n1 n2 n3 n4 n5 n6 n7 n8 n9 n10 n11 n12 n13 n14 n15 g0 h hl
theorem ok_F_L_change (l : Launch) : pFOK l yL_change (pWs yL_change cL_change 3 ((some FieldType.int))) rm_L_change F_L_change := by
  refine pFOK_all fun args w rg v0 w' rg' h => ?_
  unfold F_L_change at h
  split at h
  next a b =>
    obtain ⟨f, x, v, u, hw, h2⟩ := unB_some h
    clear h
    subst hw
    unfold chG at h2
    split at h2
    next r w1 rg1 hF =>
      obtain ⟨f1, x1, v1, u1, hw1, h3⟩ := unB_some h2
      subst hw1
      by_cases hc : bOK f rg ∧ rg1.1 = rg.1 ∧ ¬ lowI a 22 = 14
      · have h3 := (pif_t hc).symm.trans h3
        cases h3
        exact met_of_ex (by decide) (ok_k_L_change l) rfl (run_L_change rg f x v u a b r _ _ hc.2.2 hF rfl) (Nat.le_of_ble_eq_true rfl) hc.2.1 (Nat.le_of_ble_eq_true rfl) (Nat.le_of_ble_eq_true rfl) (Nat.zero_le _) rfl rfl
      · have h3 := (pif_f hc).symm.trans h3
        cases h3
    next => cases h2
  next => cases h
theorem cl_L_change (f : Nat → Option Nat) (x v u : pLV) (a b r : Int32) (rg rg' : pRg) (f' : Nat → Option Nat) (x' v' u' : pLV) (hF : (chF a b).1 (.ref 0 :: (chF a b).2) (cw f x v u) rg = some (some (.int r), cw f' x' v' u', rg')) (hc : bOK f rg ∧ rg'.1 = rg.1 ∧ ¬ lowI a 22 = 14) : F_L_change [.ref 0, .int a, .int b] (cw f x v u) rg = some (some (.int r), cw f' x' v' u', rg') := by
  have e : F_L_change [.ref 0, .int a, .int b] (cw f x v u) rg = unB (cw f x v u) (fun f _ _ _ => chG ((chF a b).1 (.ref 0 :: (chF a b).2) (cw f x v u) rg) f rg a) := rfl
  rw [e, unB_at, hF]
  exact (unB_at f' x' v' u' (fun _ _ _ _ => pif (bOK f rg ∧ rg'.1 = rg.1 ∧ ¬ lowI a 22 = 14) (some (some (Value.int r), cw f' x' v' u', rg')) none)).trans (pif_t hc)
theorem ch_all {P : pF → List Value → Prop} (h_begin : P F_X8_begin []) (h_set : ∀ c0 c1 : Int32, P F_X8_set [.int c0, .int c1]) (h_tear : ∀ c0 : Int32, P F_X8_tear [.int c0]) (h_change : ∀ c0 : Int32, P F_X8_change [.int c0]) (h_fill : ∀ c0 c1 c2 : Int32, P F_X8_fill [.int c0, .int c1, .int c2]) (h_drain : ∀ c0 c1 : Int32, P F_X8_drain [.int c0, .int c1]) (h_keep : ∀ c0 : Int32, P F_X8_keep [.int c0]) (h_back : ∀ c0 : Int32, P F_X8_back [.int c0]) (h_run : ∀ c0 : Int32, P F_X8_run [.int c0]) (h_PLAN : ∀ c0 c1 : Int32, P F_L_plan [.int c0, .int c1]) (a b : Int32) : P (chF a b).1 (chF a b).2 := by
  by_cases n0 : lowI a 22 = 0
  · by_cases g0 : lowI b 5 = 0
    · rw [show chF a b = (F_X8_begin, []) from (if_pos n0).trans (if_pos g0)]
      exact h_begin
    · rw [show chF a b = (F_X8_set, [.int (8), .int (lowI b 21)]) from (if_pos n0).trans (if_neg g0)]
      exact h_set _ _
  by_cases n1 : lowI a 22 = 1
  · by_cases g0 : lowI b 2 = 0
    · rw [show chF a b = (F_X8_set, [.int (0), .int (lowI (b >>> ((1 : Int32) &&& 31)) 201)]) from (if_neg n0).trans ((if_pos n1).trans (if_pos g0))]
      exact h_set _ _
    · rw [show chF a b = (F_X8_set, [.int (1), .int (lowI (b >>> ((1 : Int32) &&& 31)) 3001)]) from (if_neg n0).trans ((if_pos n1).trans (if_neg g0))]
      exact h_set _ _
  by_cases n2 : lowI a 22 = 2
  · rw [show chF a b = (F_X8_set, [.int (2), .int (lowI b 1500)]) from (if_neg n0).trans ((if_neg n1).trans ((if_pos n2).trans (rfl)))]
    exact h_set _ _
  by_cases n3 : lowI a 22 = 3
  · rw [show chF a b = (F_X8_set, [.int (3), .int (lowI b 1001)]) from (if_neg n0).trans ((if_neg n1).trans ((if_neg n2).trans ((if_pos n3).trans (rfl))))]
    exact h_set _ _
  by_cases n4 : lowI a 22 = 4
  · by_cases g0 : lowI b 2 = 0
    · rw [show chF a b = (F_X8_set, [.int (4), .int ((1 : Int32) + lowI (b >>> ((1 : Int32) &&& 31)) 100)]) from (if_neg n0).trans ((if_neg n1).trans ((if_neg n2).trans ((if_neg n3).trans ((if_pos n4).trans (if_pos g0)))))]
      exact h_set _ _
    · rw [show chF a b = (F_X8_set, [.int (6), .int (lowI (b >>> ((1 : Int32) &&& 31)) 51)]) from (if_neg n0).trans ((if_neg n1).trans ((if_neg n2).trans ((if_neg n3).trans ((if_pos n4).trans (if_neg g0)))))]
      exact h_set _ _
  by_cases n5 : lowI a 22 = 5
  · by_cases g0 : lowI b 2 = 0
    · rw [show chF a b = (F_X8_set, [.int (5), .int (lowI (b >>> ((1 : Int32) &&& 31)) 9)]) from (if_neg n0).trans ((if_neg n1).trans ((if_neg n2).trans ((if_neg n3).trans ((if_neg n4).trans ((if_pos n5).trans (if_pos g0))))))]
      exact h_set _ _
    · rw [show chF a b = (F_X8_set, [.int (7), .int (lowI (b >>> ((1 : Int32) &&& 31)) 2001)]) from (if_neg n0).trans ((if_neg n1).trans ((if_neg n2).trans ((if_neg n3).trans ((if_neg n4).trans ((if_pos n5).trans (if_neg g0))))))]
      exact h_set _ _
  by_cases n6 : lowI a 22 = 6
  · rw [show chF a b = (F_X8_tear, [.int ((1 : Int32) + lowI b 50)]) from (if_neg n0).trans ((if_neg n1).trans ((if_neg n2).trans ((if_neg n3).trans ((if_neg n4).trans ((if_neg n5).trans ((if_pos n6).trans (rfl)))))))]
    exact h_tear _
  by_cases n7 : lowI a 22 = 7
  · rw [show chF a b = (F_X8_tear, [.int ((1 : Int32) + lowI b 50)]) from (if_neg n0).trans ((if_neg n1).trans ((if_neg n2).trans ((if_neg n3).trans ((if_neg n4).trans ((if_neg n5).trans ((if_neg n6).trans ((if_pos n7).trans (rfl))))))))]
    exact h_tear _
  by_cases n8 : lowI a 22 = 8
  · rw [show chF a b = (F_X8_change, [.int (lowI b 4)]) from (if_neg n0).trans ((if_neg n1).trans ((if_neg n2).trans ((if_neg n3).trans ((if_neg n4).trans ((if_neg n5).trans ((if_neg n6).trans ((if_neg n7).trans ((if_pos n8).trans (rfl)))))))))]
    exact h_change _
  by_cases n9 : lowI a 22 = 9
  · rw [show chF a b = (F_X8_change, [.int (lowI b 4)]) from (if_neg n0).trans ((if_neg n1).trans ((if_neg n2).trans ((if_neg n3).trans ((if_neg n4).trans ((if_neg n5).trans ((if_neg n6).trans ((if_neg n7).trans ((if_neg n8).trans ((if_pos n9).trans (rfl))))))))))]
    exact h_change _
  by_cases n10 : lowI a 22 = 10
  · by_cases g0 : lowI (b >>> ((20 : Int32) &&& 31)) 3 = 0
    · rw [show chF a b = (F_X8_fill, [.int (lowI b 4), .int (lowI (b >>> ((2 : Int32) &&& 31)) 5001), .int (lowI (b >>> ((5 : Int32) &&& 31)) 50001)]) from (if_neg n0).trans ((if_neg n1).trans ((if_neg n2).trans ((if_neg n3).trans ((if_neg n4).trans ((if_neg n5).trans ((if_neg n6).trans ((if_neg n7).trans ((if_neg n8).trans ((if_neg n9).trans ((if_pos n10).trans (if_pos g0)))))))))))]
      exact h_fill _ _ _
    · rw [show chF a b = (F_X8_fill, [.int (lowI b 4), .int (lowI (b >>> ((2 : Int32) &&& 31)) 5001), .int (lowI (b >>> ((5 : Int32) &&& 31)) 5000)]) from (if_neg n0).trans ((if_neg n1).trans ((if_neg n2).trans ((if_neg n3).trans ((if_neg n4).trans ((if_neg n5).trans ((if_neg n6).trans ((if_neg n7).trans ((if_neg n8).trans ((if_neg n9).trans ((if_pos n10).trans (if_neg g0)))))))))))]
      exact h_fill _ _ _
  by_cases n11 : lowI a 22 = 11
  · rw [show chF a b = (F_X8_drain, [.int (lowI b 4), .int ((1 : Int32) + lowI (b >>> ((2 : Int32) &&& 31)) 9000)]) from (if_neg n0).trans ((if_neg n1).trans ((if_neg n2).trans ((if_neg n3).trans ((if_neg n4).trans ((if_neg n5).trans ((if_neg n6).trans ((if_neg n7).trans ((if_neg n8).trans ((if_neg n9).trans ((if_neg n10).trans ((if_pos n11).trans (rfl))))))))))))]
    exact h_drain _ _
  by_cases n12 : lowI a 22 = 12
  · rw [show chF a b = (F_L_plan, [.int (b), .int (a)]) from (if_neg n0).trans ((if_neg n1).trans ((if_neg n2).trans ((if_neg n3).trans ((if_neg n4).trans ((if_neg n5).trans ((if_neg n6).trans ((if_neg n7).trans ((if_neg n8).trans ((if_neg n9).trans ((if_neg n10).trans ((if_neg n11).trans ((if_pos n12).trans (rfl)))))))))))))]
    exact h_PLAN _ _
  by_cases n13 : lowI a 22 = 13
  · rw [show chF a b = (F_L_plan, [.int (b), .int (a)]) from (if_neg n0).trans ((if_neg n1).trans ((if_neg n2).trans ((if_neg n3).trans ((if_neg n4).trans ((if_neg n5).trans ((if_neg n6).trans ((if_neg n7).trans ((if_neg n8).trans ((if_neg n9).trans ((if_neg n10).trans ((if_neg n11).trans ((if_neg n12).trans ((if_pos n13).trans (rfl))))))))))))))]
    exact h_PLAN _ _
  by_cases n15 : lowI a 22 = 15
  · by_cases g0 : lowI b 2 = 0
    · rw [show chF a b = (F_X8_keep, [.int (lowI (b >>> ((1 : Int32) &&& 31)) 2)]) from (if_neg n0).trans ((if_neg n1).trans ((if_neg n2).trans ((if_neg n3).trans ((if_neg n4).trans ((if_neg n5).trans ((if_neg n6).trans ((if_neg n7).trans ((if_neg n8).trans ((if_neg n9).trans ((if_neg n10).trans ((if_neg n11).trans ((if_neg n12).trans ((if_neg n13).trans ((if_pos n15).trans (if_pos g0)))))))))))))))]
      exact h_keep _
    · rw [show chF a b = (F_X8_back, [.int (lowI (b >>> ((1 : Int32) &&& 31)) 2)]) from (if_neg n0).trans ((if_neg n1).trans ((if_neg n2).trans ((if_neg n3).trans ((if_neg n4).trans ((if_neg n5).trans ((if_neg n6).trans ((if_neg n7).trans ((if_neg n8).trans ((if_neg n9).trans ((if_neg n10).trans ((if_neg n11).trans ((if_neg n12).trans ((if_neg n13).trans ((if_pos n15).trans (if_neg g0)))))))))))))))]
      exact h_back _
  by_cases g0 : lowI (b >>> ((9 : Int32) &&& 31)) 4 = 0
  · rw [show chF a b = (F_X8_run, [.int ((1 : Int32) + lowI b 100)]) from (if_neg n0).trans ((if_neg n1).trans ((if_neg n2).trans ((if_neg n3).trans ((if_neg n4).trans ((if_neg n5).trans ((if_neg n6).trans ((if_neg n7).trans ((if_neg n8).trans ((if_neg n9).trans ((if_neg n10).trans ((if_neg n11).trans ((if_neg n12).trans ((if_neg n13).trans ((if_neg n15).trans (if_pos g0)))))))))))))))]
    exact h_run _
  · rw [show chF a b = (F_X8_run, [.int ((1 : Int32) + lowI b 12)]) from (if_neg n0).trans ((if_neg n1).trans ((if_neg n2).trans ((if_neg n3).trans ((if_neg n4).trans ((if_neg n5).trans ((if_neg n6).trans ((if_neg n7).trans ((if_neg n8).trans ((if_neg n9).trans ((if_neg n10).trans ((if_neg n11).trans ((if_neg n12).trans ((if_neg n13).trans ((if_neg n15).trans (if_neg g0)))))))))))))))]
    exact h_run _
end
