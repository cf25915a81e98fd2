noncomputable section
/-! THE LAW'S OWN CODE -/
theorem dL_law_0 : decode cL_law 0 = .ok (.new 7, 3) := by decide +kernel
theorem dL_law_3 : decode cL_law 3 = .ok (.dup, 1) := by decide +kernel
theorem dL_law_4 : decode cL_law 4 = .ok (.invokespecial 9, 3) := by decide +kernel
theorem dL_law_7 : decode cL_law 7 = .ok (.astore_n 1, 1) := by decide +kernel
theorem dL_law_8 : decode cL_law 8 = .ok (.new 10, 3) := by decide +kernel
theorem dL_law_11 : decode cL_law 11 = .ok (.dup, 1) := by decide +kernel
theorem dL_law_12 : decode cL_law 12 = .ok (.invokespecial 12, 3) := by decide +kernel
theorem dL_law_15 : decode cL_law 15 = .ok (.astore_n 2, 1) := by decide +kernel
theorem dL_law_16 : decode cL_law 16 = .ok (.iconst 0, 1) := by decide +kernel
theorem dL_law_17 : decode cL_law 17 = .ok (.istore_n 3, 1) := by decide +kernel
theorem dL_law_18 : decode cL_law 18 = .ok (.iload_n 3, 1) := by decide +kernel
theorem dL_law_19 : decode cL_law 19 = .ok (.aload_n 0, 1) := by decide +kernel
theorem dL_law_20 : decode cL_law 20 = .ok (.arraylength, 1) := by decide +kernel
theorem dL_law_21 : decode cL_law 21 = .ok (.iconst 4, 1) := by decide +kernel
theorem dL_law_22 : decode cL_law 22 = .ok (.isub, 1) := by decide +kernel
theorem dL_law_23 : decode cL_law 23 = .ok (.if_icmp .gt 719, 3) := by decide +kernel
theorem dL_law_26 : decode cL_law 26 = .ok (.aload_n 0, 1) := by decide +kernel
theorem dL_law_27 : decode cL_law 27 = .ok (.iload_n 3, 1) := by decide +kernel
theorem dL_law_28 : decode cL_law 28 = .ok (.iaload, 1) := by decide +kernel
theorem dL_law_29 : decode cL_law 29 = .ok (.bipush 31, 2) := by decide +kernel
theorem dL_law_31 : decode cL_law 31 = .ok (.iand, 1) := by decide +kernel
theorem dL_law_32 : decode cL_law 32 = .ok (.tableswitch 704 0 23 #[112, 125, 158, 181, 204, 247, 280, 293, 316, 329, 352, 365, 388, 411, 434, 467, 490, 513, 546, 589, 622, 635, 658, 681], 112) := by decide +kernel
theorem dL_law_144 : decode cL_law 144 = .ok (.aload_n 1, 1) := by decide +kernel
theorem dL_law_145 : decode cL_law 145 = .ok (.invokevirtual 13, 3) := by decide +kernel
theorem dL_law_148 : decode cL_law 148 = .ok (.aload_n 2, 1) := by decide +kernel
theorem dL_law_149 : decode cL_law 149 = .ok (.invokevirtual 17, 3) := by decide +kernel
theorem dL_law_152 : decode cL_law 152 = .ok (.if_icmp .eq 584, 3) := by decide +kernel
theorem dL_law_155 : decode cL_law 155 = .ok (.iconst 0, 1) := by decide +kernel
theorem dL_law_156 : decode cL_law 156 = .ok (.ireturn, 1) := by decide +kernel
theorem dL_law_157 : decode cL_law 157 = .ok (.aload_n 1, 1) := by decide +kernel
theorem dL_law_158 : decode cL_law 158 = .ok (.aload_n 0, 1) := by decide +kernel
theorem dL_law_159 : decode cL_law 159 = .ok (.iload_n 3, 1) := by decide +kernel
theorem dL_law_160 : decode cL_law 160 = .ok (.iconst 1, 1) := by decide +kernel
theorem dL_law_161 : decode cL_law 161 = .ok (.iadd, 1) := by decide +kernel
theorem dL_law_162 : decode cL_law 162 = .ok (.iaload, 1) := by decide +kernel
theorem dL_law_163 : decode cL_law 163 = .ok (.aload_n 0, 1) := by decide +kernel
theorem dL_law_164 : decode cL_law 164 = .ok (.iload_n 3, 1) := by decide +kernel
theorem dL_law_165 : decode cL_law 165 = .ok (.iconst 2, 1) := by decide +kernel
theorem dL_law_166 : decode cL_law 166 = .ok (.iadd, 1) := by decide +kernel
theorem dL_law_167 : decode cL_law 167 = .ok (.iaload, 1) := by decide +kernel
theorem dL_law_168 : decode cL_law 168 = .ok (.invokevirtual 18, 3) := by decide +kernel
theorem dL_law_171 : decode cL_law 171 = .ok (.aload_n 2, 1) := by decide +kernel
theorem dL_law_172 : decode cL_law 172 = .ok (.aload_n 0, 1) := by decide +kernel
theorem dL_law_173 : decode cL_law 173 = .ok (.iload_n 3, 1) := by decide +kernel
theorem dL_law_174 : decode cL_law 174 = .ok (.iconst 1, 1) := by decide +kernel
theorem dL_law_175 : decode cL_law 175 = .ok (.iadd, 1) := by decide +kernel
theorem dL_law_176 : decode cL_law 176 = .ok (.iaload, 1) := by decide +kernel
theorem dL_law_177 : decode cL_law 177 = .ok (.aload_n 0, 1) := by decide +kernel
theorem dL_law_178 : decode cL_law 178 = .ok (.iload_n 3, 1) := by decide +kernel
theorem dL_law_179 : decode cL_law 179 = .ok (.iconst 2, 1) := by decide +kernel
theorem dL_law_180 : decode cL_law 180 = .ok (.iadd, 1) := by decide +kernel
theorem dL_law_181 : decode cL_law 181 = .ok (.iaload, 1) := by decide +kernel
theorem dL_law_182 : decode cL_law 182 = .ok (.invokevirtual 22, 3) := by decide +kernel
theorem dL_law_185 : decode cL_law 185 = .ok (.if_icmp .eq 551, 3) := by decide +kernel
theorem dL_law_188 : decode cL_law 188 = .ok (.iconst 0, 1) := by decide +kernel
theorem dL_law_189 : decode cL_law 189 = .ok (.ireturn, 1) := by decide +kernel
theorem dL_law_190 : decode cL_law 190 = .ok (.aload_n 1, 1) := by decide +kernel
theorem dL_law_191 : decode cL_law 191 = .ok (.aload_n 0, 1) := by decide +kernel
theorem dL_law_192 : decode cL_law 192 = .ok (.iload_n 3, 1) := by decide +kernel
theorem dL_law_193 : decode cL_law 193 = .ok (.iconst 1, 1) := by decide +kernel
theorem dL_law_194 : decode cL_law 194 = .ok (.iadd, 1) := by decide +kernel
theorem dL_law_195 : decode cL_law 195 = .ok (.iaload, 1) := by decide +kernel
theorem dL_law_196 : decode cL_law 196 = .ok (.invokevirtual 23, 3) := by decide +kernel
theorem dL_law_199 : decode cL_law 199 = .ok (.aload_n 2, 1) := by decide +kernel
theorem dL_law_200 : decode cL_law 200 = .ok (.aload_n 0, 1) := by decide +kernel
theorem dL_law_201 : decode cL_law 201 = .ok (.iload_n 3, 1) := by decide +kernel
theorem dL_law_202 : decode cL_law 202 = .ok (.iconst 1, 1) := by decide +kernel
theorem dL_law_203 : decode cL_law 203 = .ok (.iadd, 1) := by decide +kernel
theorem dL_law_204 : decode cL_law 204 = .ok (.iaload, 1) := by decide +kernel
theorem dL_law_205 : decode cL_law 205 = .ok (.invokevirtual 27, 3) := by decide +kernel
theorem dL_law_208 : decode cL_law 208 = .ok (.if_icmp .eq 528, 3) := by decide +kernel
theorem dL_law_211 : decode cL_law 211 = .ok (.iconst 0, 1) := by decide +kernel
theorem dL_law_212 : decode cL_law 212 = .ok (.ireturn, 1) := by decide +kernel
theorem dL_law_213 : decode cL_law 213 = .ok (.aload_n 1, 1) := by decide +kernel
theorem dL_law_214 : decode cL_law 214 = .ok (.aload_n 0, 1) := by decide +kernel
theorem dL_law_215 : decode cL_law 215 = .ok (.iload_n 3, 1) := by decide +kernel
theorem dL_law_216 : decode cL_law 216 = .ok (.iconst 1, 1) := by decide +kernel
theorem dL_law_217 : decode cL_law 217 = .ok (.iadd, 1) := by decide +kernel
theorem dL_law_218 : decode cL_law 218 = .ok (.iaload, 1) := by decide +kernel
theorem dL_law_219 : decode cL_law 219 = .ok (.invokevirtual 28, 3) := by decide +kernel
theorem dL_law_222 : decode cL_law 222 = .ok (.aload_n 2, 1) := by decide +kernel
theorem dL_law_223 : decode cL_law 223 = .ok (.aload_n 0, 1) := by decide +kernel
theorem dL_law_224 : decode cL_law 224 = .ok (.iload_n 3, 1) := by decide +kernel
theorem dL_law_225 : decode cL_law 225 = .ok (.iconst 1, 1) := by decide +kernel
theorem dL_law_226 : decode cL_law 226 = .ok (.iadd, 1) := by decide +kernel
theorem dL_law_227 : decode cL_law 227 = .ok (.iaload, 1) := by decide +kernel
theorem dL_law_228 : decode cL_law 228 = .ok (.invokevirtual 31, 3) := by decide +kernel
theorem dL_law_231 : decode cL_law 231 = .ok (.if_icmp .eq 505, 3) := by decide +kernel
theorem dL_law_234 : decode cL_law 234 = .ok (.iconst 0, 1) := by decide +kernel
theorem dL_law_235 : decode cL_law 235 = .ok (.ireturn, 1) := by decide +kernel
theorem dL_law_236 : decode cL_law 236 = .ok (.aload_n 1, 1) := by decide +kernel
theorem dL_law_237 : decode cL_law 237 = .ok (.aload_n 0, 1) := by decide +kernel
theorem dL_law_238 : decode cL_law 238 = .ok (.iload_n 3, 1) := by decide +kernel
theorem dL_law_239 : decode cL_law 239 = .ok (.iconst 1, 1) := by decide +kernel
theorem dL_law_240 : decode cL_law 240 = .ok (.iadd, 1) := by decide +kernel
theorem dL_law_241 : decode cL_law 241 = .ok (.iaload, 1) := by decide +kernel
theorem dL_law_242 : decode cL_law 242 = .ok (.aload_n 0, 1) := by decide +kernel
theorem dL_law_243 : decode cL_law 243 = .ok (.iload_n 3, 1) := by decide +kernel
theorem dL_law_244 : decode cL_law 244 = .ok (.iconst 2, 1) := by decide +kernel
theorem dL_law_245 : decode cL_law 245 = .ok (.iadd, 1) := by decide +kernel
theorem dL_law_246 : decode cL_law 246 = .ok (.iaload, 1) := by decide +kernel
theorem dL_law_247 : decode cL_law 247 = .ok (.aload_n 0, 1) := by decide +kernel
theorem dL_law_248 : decode cL_law 248 = .ok (.iload_n 3, 1) := by decide +kernel
theorem dL_law_249 : decode cL_law 249 = .ok (.iconst 3, 1) := by decide +kernel
theorem dL_law_250 : decode cL_law 250 = .ok (.iadd, 1) := by decide +kernel
theorem dL_law_251 : decode cL_law 251 = .ok (.iaload, 1) := by decide +kernel
theorem dL_law_252 : decode cL_law 252 = .ok (.invokevirtual 32, 3) := by decide +kernel
theorem dL_law_255 : decode cL_law 255 = .ok (.aload_n 2, 1) := by decide +kernel
theorem dL_law_256 : decode cL_law 256 = .ok (.aload_n 0, 1) := by decide +kernel
theorem dL_law_257 : decode cL_law 257 = .ok (.iload_n 3, 1) := by decide +kernel
theorem dL_law_258 : decode cL_law 258 = .ok (.iconst 1, 1) := by decide +kernel
theorem dL_law_259 : decode cL_law 259 = .ok (.iadd, 1) := by decide +kernel
theorem dL_law_260 : decode cL_law 260 = .ok (.iaload, 1) := by decide +kernel
theorem dL_law_261 : decode cL_law 261 = .ok (.aload_n 0, 1) := by decide +kernel
theorem dL_law_262 : decode cL_law 262 = .ok (.iload_n 3, 1) := by decide +kernel
theorem dL_law_263 : decode cL_law 263 = .ok (.iconst 2, 1) := by decide +kernel
theorem dL_law_264 : decode cL_law 264 = .ok (.iadd, 1) := by decide +kernel
theorem dL_law_265 : decode cL_law 265 = .ok (.iaload, 1) := by decide +kernel
theorem dL_law_266 : decode cL_law 266 = .ok (.aload_n 0, 1) := by decide +kernel
theorem dL_law_267 : decode cL_law 267 = .ok (.iload_n 3, 1) := by decide +kernel
theorem dL_law_268 : decode cL_law 268 = .ok (.iconst 3, 1) := by decide +kernel
theorem dL_law_269 : decode cL_law 269 = .ok (.iadd, 1) := by decide +kernel
theorem dL_law_270 : decode cL_law 270 = .ok (.iaload, 1) := by decide +kernel
theorem dL_law_271 : decode cL_law 271 = .ok (.invokevirtual 36, 3) := by decide +kernel
theorem dL_law_274 : decode cL_law 274 = .ok (.if_icmp .eq 462, 3) := by decide +kernel
theorem dL_law_277 : decode cL_law 277 = .ok (.iconst 0, 1) := by decide +kernel
theorem dL_law_278 : decode cL_law 278 = .ok (.ireturn, 1) := by decide +kernel
theorem dL_law_279 : decode cL_law 279 = .ok (.aload_n 1, 1) := by decide +kernel
theorem dL_law_280 : decode cL_law 280 = .ok (.aload_n 0, 1) := by decide +kernel
theorem dL_law_281 : decode cL_law 281 = .ok (.iload_n 3, 1) := by decide +kernel
theorem dL_law_282 : decode cL_law 282 = .ok (.iconst 1, 1) := by decide +kernel
theorem dL_law_283 : decode cL_law 283 = .ok (.iadd, 1) := by decide +kernel
theorem dL_law_284 : decode cL_law 284 = .ok (.iaload, 1) := by decide +kernel
theorem dL_law_285 : decode cL_law 285 = .ok (.aload_n 0, 1) := by decide +kernel
theorem dL_law_286 : decode cL_law 286 = .ok (.iload_n 3, 1) := by decide +kernel
theorem dL_law_287 : decode cL_law 287 = .ok (.iconst 2, 1) := by decide +kernel
theorem dL_law_288 : decode cL_law 288 = .ok (.iadd, 1) := by decide +kernel
theorem dL_law_289 : decode cL_law 289 = .ok (.iaload, 1) := by decide +kernel
theorem dL_law_290 : decode cL_law 290 = .ok (.invokevirtual 37, 3) := by decide +kernel
theorem dL_law_293 : decode cL_law 293 = .ok (.aload_n 2, 1) := by decide +kernel
theorem dL_law_294 : decode cL_law 294 = .ok (.aload_n 0, 1) := by decide +kernel
theorem dL_law_295 : decode cL_law 295 = .ok (.iload_n 3, 1) := by decide +kernel
theorem dL_law_296 : decode cL_law 296 = .ok (.iconst 1, 1) := by decide +kernel
theorem dL_law_297 : decode cL_law 297 = .ok (.iadd, 1) := by decide +kernel
theorem dL_law_298 : decode cL_law 298 = .ok (.iaload, 1) := by decide +kernel
theorem dL_law_299 : decode cL_law 299 = .ok (.aload_n 0, 1) := by decide +kernel
theorem dL_law_300 : decode cL_law 300 = .ok (.iload_n 3, 1) := by decide +kernel
theorem dL_law_301 : decode cL_law 301 = .ok (.iconst 2, 1) := by decide +kernel
theorem dL_law_302 : decode cL_law 302 = .ok (.iadd, 1) := by decide +kernel
theorem dL_law_303 : decode cL_law 303 = .ok (.iaload, 1) := by decide +kernel
theorem dL_law_304 : decode cL_law 304 = .ok (.invokevirtual 40, 3) := by decide +kernel
theorem dL_law_307 : decode cL_law 307 = .ok (.if_icmp .eq 429, 3) := by decide +kernel
theorem dL_law_310 : decode cL_law 310 = .ok (.iconst 0, 1) := by decide +kernel
theorem dL_law_311 : decode cL_law 311 = .ok (.ireturn, 1) := by decide +kernel
theorem dL_law_312 : decode cL_law 312 = .ok (.aload_n 1, 1) := by decide +kernel
theorem dL_law_313 : decode cL_law 313 = .ok (.invokevirtual 41, 3) := by decide +kernel
theorem dL_law_316 : decode cL_law 316 = .ok (.aload_n 2, 1) := by decide +kernel
theorem dL_law_317 : decode cL_law 317 = .ok (.invokevirtual 44, 3) := by decide +kernel
theorem dL_law_320 : decode cL_law 320 = .ok (.if_icmp .eq 416, 3) := by decide +kernel
theorem dL_law_323 : decode cL_law 323 = .ok (.iconst 0, 1) := by decide +kernel
theorem dL_law_324 : decode cL_law 324 = .ok (.ireturn, 1) := by decide +kernel
theorem dL_law_325 : decode cL_law 325 = .ok (.aload_n 1, 1) := by decide +kernel
theorem dL_law_326 : decode cL_law 326 = .ok (.aload_n 0, 1) := by decide +kernel
theorem dL_law_327 : decode cL_law 327 = .ok (.iload_n 3, 1) := by decide +kernel
theorem dL_law_328 : decode cL_law 328 = .ok (.iconst 1, 1) := by decide +kernel
theorem dL_law_329 : decode cL_law 329 = .ok (.iadd, 1) := by decide +kernel
theorem dL_law_330 : decode cL_law 330 = .ok (.iaload, 1) := by decide +kernel
theorem dL_law_331 : decode cL_law 331 = .ok (.invokevirtual 45, 3) := by decide +kernel
theorem dL_law_334 : decode cL_law 334 = .ok (.aload_n 2, 1) := by decide +kernel
theorem dL_law_335 : decode cL_law 335 = .ok (.aload_n 0, 1) := by decide +kernel
theorem dL_law_336 : decode cL_law 336 = .ok (.iload_n 3, 1) := by decide +kernel
theorem dL_law_337 : decode cL_law 337 = .ok (.iconst 1, 1) := by decide +kernel
theorem dL_law_338 : decode cL_law 338 = .ok (.iadd, 1) := by decide +kernel
theorem dL_law_339 : decode cL_law 339 = .ok (.iaload, 1) := by decide +kernel
theorem dL_law_340 : decode cL_law 340 = .ok (.invokevirtual 48, 3) := by decide +kernel
theorem dL_law_343 : decode cL_law 343 = .ok (.if_icmp .eq 393, 3) := by decide +kernel
theorem dL_law_346 : decode cL_law 346 = .ok (.iconst 0, 1) := by decide +kernel
theorem dL_law_347 : decode cL_law 347 = .ok (.ireturn, 1) := by decide +kernel
theorem dL_law_348 : decode cL_law 348 = .ok (.aload_n 1, 1) := by decide +kernel
theorem dL_law_349 : decode cL_law 349 = .ok (.invokevirtual 49, 3) := by decide +kernel
theorem dL_law_352 : decode cL_law 352 = .ok (.aload_n 2, 1) := by decide +kernel
theorem dL_law_353 : decode cL_law 353 = .ok (.invokevirtual 52, 3) := by decide +kernel
theorem dL_law_356 : decode cL_law 356 = .ok (.if_icmp .eq 380, 3) := by decide +kernel
theorem dL_law_359 : decode cL_law 359 = .ok (.iconst 0, 1) := by decide +kernel
theorem dL_law_360 : decode cL_law 360 = .ok (.ireturn, 1) := by decide +kernel
theorem dL_law_361 : decode cL_law 361 = .ok (.aload_n 1, 1) := by decide +kernel
theorem dL_law_362 : decode cL_law 362 = .ok (.aload_n 0, 1) := by decide +kernel
theorem dL_law_363 : decode cL_law 363 = .ok (.iload_n 3, 1) := by decide +kernel
theorem dL_law_364 : decode cL_law 364 = .ok (.iconst 1, 1) := by decide +kernel
theorem dL_law_365 : decode cL_law 365 = .ok (.iadd, 1) := by decide +kernel
theorem dL_law_366 : decode cL_law 366 = .ok (.iaload, 1) := by decide +kernel
theorem dL_law_367 : decode cL_law 367 = .ok (.invokevirtual 53, 3) := by decide +kernel
theorem dL_law_370 : decode cL_law 370 = .ok (.aload_n 2, 1) := by decide +kernel
theorem dL_law_371 : decode cL_law 371 = .ok (.aload_n 0, 1) := by decide +kernel
theorem dL_law_372 : decode cL_law 372 = .ok (.iload_n 3, 1) := by decide +kernel
theorem dL_law_373 : decode cL_law 373 = .ok (.iconst 1, 1) := by decide +kernel
theorem dL_law_374 : decode cL_law 374 = .ok (.iadd, 1) := by decide +kernel
theorem dL_law_375 : decode cL_law 375 = .ok (.iaload, 1) := by decide +kernel
theorem dL_law_376 : decode cL_law 376 = .ok (.invokevirtual 56, 3) := by decide +kernel
theorem dL_law_379 : decode cL_law 379 = .ok (.if_icmp .eq 357, 3) := by decide +kernel
theorem dL_law_382 : decode cL_law 382 = .ok (.iconst 0, 1) := by decide +kernel
theorem dL_law_383 : decode cL_law 383 = .ok (.ireturn, 1) := by decide +kernel
theorem dL_law_384 : decode cL_law 384 = .ok (.aload_n 1, 1) := by decide +kernel
theorem dL_law_385 : decode cL_law 385 = .ok (.invokevirtual 57, 3) := by decide +kernel
theorem dL_law_388 : decode cL_law 388 = .ok (.aload_n 2, 1) := by decide +kernel
theorem dL_law_389 : decode cL_law 389 = .ok (.invokevirtual 60, 3) := by decide +kernel
theorem dL_law_392 : decode cL_law 392 = .ok (.if_icmp .eq 344, 3) := by decide +kernel
theorem dL_law_395 : decode cL_law 395 = .ok (.iconst 0, 1) := by decide +kernel
theorem dL_law_396 : decode cL_law 396 = .ok (.ireturn, 1) := by decide +kernel
theorem dL_law_397 : decode cL_law 397 = .ok (.aload_n 1, 1) := by decide +kernel
theorem dL_law_398 : decode cL_law 398 = .ok (.aload_n 0, 1) := by decide +kernel
theorem dL_law_399 : decode cL_law 399 = .ok (.iload_n 3, 1) := by decide +kernel
theorem dL_law_400 : decode cL_law 400 = .ok (.iconst 1, 1) := by decide +kernel
theorem dL_law_401 : decode cL_law 401 = .ok (.iadd, 1) := by decide +kernel
theorem dL_law_402 : decode cL_law 402 = .ok (.iaload, 1) := by decide +kernel
theorem dL_law_403 : decode cL_law 403 = .ok (.invokevirtual 61, 3) := by decide +kernel
theorem dL_law_406 : decode cL_law 406 = .ok (.aload_n 2, 1) := by decide +kernel
theorem dL_law_407 : decode cL_law 407 = .ok (.aload_n 0, 1) := by decide +kernel
theorem dL_law_408 : decode cL_law 408 = .ok (.iload_n 3, 1) := by decide +kernel
theorem dL_law_409 : decode cL_law 409 = .ok (.iconst 1, 1) := by decide +kernel
theorem dL_law_410 : decode cL_law 410 = .ok (.iadd, 1) := by decide +kernel
theorem dL_law_411 : decode cL_law 411 = .ok (.iaload, 1) := by decide +kernel
theorem dL_law_412 : decode cL_law 412 = .ok (.invokevirtual 64, 3) := by decide +kernel
theorem dL_law_415 : decode cL_law 415 = .ok (.if_icmp .eq 321, 3) := by decide +kernel
theorem dL_law_418 : decode cL_law 418 = .ok (.iconst 0, 1) := by decide +kernel
theorem dL_law_419 : decode cL_law 419 = .ok (.ireturn, 1) := by decide +kernel
theorem dL_law_420 : decode cL_law 420 = .ok (.aload_n 1, 1) := by decide +kernel
theorem dL_law_421 : decode cL_law 421 = .ok (.aload_n 0, 1) := by decide +kernel
theorem dL_law_422 : decode cL_law 422 = .ok (.iload_n 3, 1) := by decide +kernel
theorem dL_law_423 : decode cL_law 423 = .ok (.iconst 1, 1) := by decide +kernel
theorem dL_law_424 : decode cL_law 424 = .ok (.iadd, 1) := by decide +kernel
theorem dL_law_425 : decode cL_law 425 = .ok (.iaload, 1) := by decide +kernel
theorem dL_law_426 : decode cL_law 426 = .ok (.invokevirtual 65, 3) := by decide +kernel
theorem dL_law_429 : decode cL_law 429 = .ok (.aload_n 2, 1) := by decide +kernel
theorem dL_law_430 : decode cL_law 430 = .ok (.aload_n 0, 1) := by decide +kernel
theorem dL_law_431 : decode cL_law 431 = .ok (.iload_n 3, 1) := by decide +kernel
theorem dL_law_432 : decode cL_law 432 = .ok (.iconst 1, 1) := by decide +kernel
theorem dL_law_433 : decode cL_law 433 = .ok (.iadd, 1) := by decide +kernel
theorem dL_law_434 : decode cL_law 434 = .ok (.iaload, 1) := by decide +kernel
theorem dL_law_435 : decode cL_law 435 = .ok (.invokevirtual 68, 3) := by decide +kernel
theorem dL_law_438 : decode cL_law 438 = .ok (.if_icmp .eq 298, 3) := by decide +kernel
theorem dL_law_441 : decode cL_law 441 = .ok (.iconst 0, 1) := by decide +kernel
theorem dL_law_442 : decode cL_law 442 = .ok (.ireturn, 1) := by decide +kernel
theorem dL_law_443 : decode cL_law 443 = .ok (.aload_n 1, 1) := by decide +kernel
theorem dL_law_444 : decode cL_law 444 = .ok (.aload_n 0, 1) := by decide +kernel
theorem dL_law_445 : decode cL_law 445 = .ok (.iload_n 3, 1) := by decide +kernel
theorem dL_law_446 : decode cL_law 446 = .ok (.iconst 1, 1) := by decide +kernel
theorem dL_law_447 : decode cL_law 447 = .ok (.iadd, 1) := by decide +kernel
theorem dL_law_448 : decode cL_law 448 = .ok (.iaload, 1) := by decide +kernel
theorem dL_law_449 : decode cL_law 449 = .ok (.invokevirtual 69, 3) := by decide +kernel
theorem dL_law_452 : decode cL_law 452 = .ok (.aload_n 2, 1) := by decide +kernel
theorem dL_law_453 : decode cL_law 453 = .ok (.aload_n 0, 1) := by decide +kernel
theorem dL_law_454 : decode cL_law 454 = .ok (.iload_n 3, 1) := by decide +kernel
theorem dL_law_455 : decode cL_law 455 = .ok (.iconst 1, 1) := by decide +kernel
theorem dL_law_456 : decode cL_law 456 = .ok (.iadd, 1) := by decide +kernel
theorem dL_law_457 : decode cL_law 457 = .ok (.iaload, 1) := by decide +kernel
theorem dL_law_458 : decode cL_law 458 = .ok (.invokevirtual 72, 3) := by decide +kernel
theorem dL_law_461 : decode cL_law 461 = .ok (.if_icmp .eq 275, 3) := by decide +kernel
theorem dL_law_464 : decode cL_law 464 = .ok (.iconst 0, 1) := by decide +kernel
theorem dL_law_465 : decode cL_law 465 = .ok (.ireturn, 1) := by decide +kernel
theorem dL_law_466 : decode cL_law 466 = .ok (.aload_n 1, 1) := by decide +kernel
theorem dL_law_467 : decode cL_law 467 = .ok (.aload_n 0, 1) := by decide +kernel
theorem dL_law_468 : decode cL_law 468 = .ok (.iload_n 3, 1) := by decide +kernel
theorem dL_law_469 : decode cL_law 469 = .ok (.iconst 1, 1) := by decide +kernel
theorem dL_law_470 : decode cL_law 470 = .ok (.iadd, 1) := by decide +kernel
theorem dL_law_471 : decode cL_law 471 = .ok (.iaload, 1) := by decide +kernel
theorem dL_law_472 : decode cL_law 472 = .ok (.aload_n 0, 1) := by decide +kernel
theorem dL_law_473 : decode cL_law 473 = .ok (.iload_n 3, 1) := by decide +kernel
theorem dL_law_474 : decode cL_law 474 = .ok (.iconst 2, 1) := by decide +kernel
theorem dL_law_475 : decode cL_law 475 = .ok (.iadd, 1) := by decide +kernel
theorem dL_law_476 : decode cL_law 476 = .ok (.iaload, 1) := by decide +kernel
theorem dL_law_477 : decode cL_law 477 = .ok (.invokevirtual 73, 3) := by decide +kernel
theorem dL_law_480 : decode cL_law 480 = .ok (.aload_n 2, 1) := by decide +kernel
theorem dL_law_481 : decode cL_law 481 = .ok (.aload_n 0, 1) := by decide +kernel
theorem dL_law_482 : decode cL_law 482 = .ok (.iload_n 3, 1) := by decide +kernel
theorem dL_law_483 : decode cL_law 483 = .ok (.iconst 1, 1) := by decide +kernel
theorem dL_law_484 : decode cL_law 484 = .ok (.iadd, 1) := by decide +kernel
theorem dL_law_485 : decode cL_law 485 = .ok (.iaload, 1) := by decide +kernel
theorem dL_law_486 : decode cL_law 486 = .ok (.aload_n 0, 1) := by decide +kernel
theorem dL_law_487 : decode cL_law 487 = .ok (.iload_n 3, 1) := by decide +kernel
theorem dL_law_488 : decode cL_law 488 = .ok (.iconst 2, 1) := by decide +kernel
theorem dL_law_489 : decode cL_law 489 = .ok (.iadd, 1) := by decide +kernel
theorem dL_law_490 : decode cL_law 490 = .ok (.iaload, 1) := by decide +kernel
theorem dL_law_491 : decode cL_law 491 = .ok (.invokevirtual 76, 3) := by decide +kernel
theorem dL_law_494 : decode cL_law 494 = .ok (.if_icmp .eq 242, 3) := by decide +kernel
theorem dL_law_497 : decode cL_law 497 = .ok (.iconst 0, 1) := by decide +kernel
theorem dL_law_498 : decode cL_law 498 = .ok (.ireturn, 1) := by decide +kernel
theorem dL_law_499 : decode cL_law 499 = .ok (.aload_n 1, 1) := by decide +kernel
theorem dL_law_500 : decode cL_law 500 = .ok (.aload_n 0, 1) := by decide +kernel
theorem dL_law_501 : decode cL_law 501 = .ok (.iload_n 3, 1) := by decide +kernel
theorem dL_law_502 : decode cL_law 502 = .ok (.iconst 1, 1) := by decide +kernel
theorem dL_law_503 : decode cL_law 503 = .ok (.iadd, 1) := by decide +kernel
theorem dL_law_504 : decode cL_law 504 = .ok (.iaload, 1) := by decide +kernel
theorem dL_law_505 : decode cL_law 505 = .ok (.invokevirtual 77, 3) := by decide +kernel
theorem dL_law_508 : decode cL_law 508 = .ok (.aload_n 2, 1) := by decide +kernel
theorem dL_law_509 : decode cL_law 509 = .ok (.aload_n 0, 1) := by decide +kernel
theorem dL_law_510 : decode cL_law 510 = .ok (.iload_n 3, 1) := by decide +kernel
theorem dL_law_511 : decode cL_law 511 = .ok (.iconst 1, 1) := by decide +kernel
theorem dL_law_512 : decode cL_law 512 = .ok (.iadd, 1) := by decide +kernel
theorem dL_law_513 : decode cL_law 513 = .ok (.iaload, 1) := by decide +kernel
theorem dL_law_514 : decode cL_law 514 = .ok (.invokevirtual 80, 3) := by decide +kernel
theorem dL_law_517 : decode cL_law 517 = .ok (.if_icmp .eq 219, 3) := by decide +kernel
theorem dL_law_520 : decode cL_law 520 = .ok (.iconst 0, 1) := by decide +kernel
theorem dL_law_521 : decode cL_law 521 = .ok (.ireturn, 1) := by decide +kernel
theorem dL_law_522 : decode cL_law 522 = .ok (.aload_n 1, 1) := by decide +kernel
theorem dL_law_523 : decode cL_law 523 = .ok (.aload_n 0, 1) := by decide +kernel
theorem dL_law_524 : decode cL_law 524 = .ok (.iload_n 3, 1) := by decide +kernel
theorem dL_law_525 : decode cL_law 525 = .ok (.iconst 1, 1) := by decide +kernel
theorem dL_law_526 : decode cL_law 526 = .ok (.iadd, 1) := by decide +kernel
theorem dL_law_527 : decode cL_law 527 = .ok (.iaload, 1) := by decide +kernel
theorem dL_law_528 : decode cL_law 528 = .ok (.invokevirtual 81, 3) := by decide +kernel
theorem dL_law_531 : decode cL_law 531 = .ok (.aload_n 2, 1) := by decide +kernel
theorem dL_law_532 : decode cL_law 532 = .ok (.aload_n 0, 1) := by decide +kernel
theorem dL_law_533 : decode cL_law 533 = .ok (.iload_n 3, 1) := by decide +kernel
theorem dL_law_534 : decode cL_law 534 = .ok (.iconst 1, 1) := by decide +kernel
theorem dL_law_535 : decode cL_law 535 = .ok (.iadd, 1) := by decide +kernel
theorem dL_law_536 : decode cL_law 536 = .ok (.iaload, 1) := by decide +kernel
theorem dL_law_537 : decode cL_law 537 = .ok (.invokevirtual 84, 3) := by decide +kernel
theorem dL_law_540 : decode cL_law 540 = .ok (.if_icmp .eq 196, 3) := by decide +kernel
theorem dL_law_543 : decode cL_law 543 = .ok (.iconst 0, 1) := by decide +kernel
theorem dL_law_544 : decode cL_law 544 = .ok (.ireturn, 1) := by decide +kernel
theorem dL_law_545 : decode cL_law 545 = .ok (.aload_n 1, 1) := by decide +kernel
theorem dL_law_546 : decode cL_law 546 = .ok (.aload_n 0, 1) := by decide +kernel
theorem dL_law_547 : decode cL_law 547 = .ok (.iload_n 3, 1) := by decide +kernel
theorem dL_law_548 : decode cL_law 548 = .ok (.iconst 1, 1) := by decide +kernel
theorem dL_law_549 : decode cL_law 549 = .ok (.iadd, 1) := by decide +kernel
theorem dL_law_550 : decode cL_law 550 = .ok (.iaload, 1) := by decide +kernel
theorem dL_law_551 : decode cL_law 551 = .ok (.aload_n 0, 1) := by decide +kernel
theorem dL_law_552 : decode cL_law 552 = .ok (.iload_n 3, 1) := by decide +kernel
theorem dL_law_553 : decode cL_law 553 = .ok (.iconst 2, 1) := by decide +kernel
theorem dL_law_554 : decode cL_law 554 = .ok (.iadd, 1) := by decide +kernel
theorem dL_law_555 : decode cL_law 555 = .ok (.iaload, 1) := by decide +kernel
theorem dL_law_556 : decode cL_law 556 = .ok (.invokevirtual 85, 3) := by decide +kernel
theorem dL_law_559 : decode cL_law 559 = .ok (.aload_n 2, 1) := by decide +kernel
theorem dL_law_560 : decode cL_law 560 = .ok (.aload_n 0, 1) := by decide +kernel
theorem dL_law_561 : decode cL_law 561 = .ok (.iload_n 3, 1) := by decide +kernel
theorem dL_law_562 : decode cL_law 562 = .ok (.iconst 1, 1) := by decide +kernel
theorem dL_law_563 : decode cL_law 563 = .ok (.iadd, 1) := by decide +kernel
theorem dL_law_564 : decode cL_law 564 = .ok (.iaload, 1) := by decide +kernel
theorem dL_law_565 : decode cL_law 565 = .ok (.aload_n 0, 1) := by decide +kernel
theorem dL_law_566 : decode cL_law 566 = .ok (.iload_n 3, 1) := by decide +kernel
theorem dL_law_567 : decode cL_law 567 = .ok (.iconst 2, 1) := by decide +kernel
theorem dL_law_568 : decode cL_law 568 = .ok (.iadd, 1) := by decide +kernel
theorem dL_law_569 : decode cL_law 569 = .ok (.iaload, 1) := by decide +kernel
theorem dL_law_570 : decode cL_law 570 = .ok (.invokevirtual 88, 3) := by decide +kernel
theorem dL_law_573 : decode cL_law 573 = .ok (.if_icmp .eq 163, 3) := by decide +kernel
theorem dL_law_576 : decode cL_law 576 = .ok (.iconst 0, 1) := by decide +kernel
theorem dL_law_577 : decode cL_law 577 = .ok (.ireturn, 1) := by decide +kernel
theorem dL_law_578 : decode cL_law 578 = .ok (.aload_n 1, 1) := by decide +kernel
theorem dL_law_579 : decode cL_law 579 = .ok (.invokevirtual 89, 3) := by decide +kernel
theorem dL_law_582 : decode cL_law 582 = .ok (.f2d, 1) := by decide +kernel
theorem dL_law_583 : decode cL_law 583 = .ok (.dstore 4, 2) := by decide +kernel
theorem dL_law_585 : decode cL_law 585 = .ok (.aload_n 2, 1) := by decide +kernel
theorem dL_law_586 : decode cL_law 586 = .ok (.invokevirtual 93, 3) := by decide +kernel
theorem dL_law_589 : decode cL_law 589 = .ok (.f2d, 1) := by decide +kernel
theorem dL_law_590 : decode cL_law 590 = .ok (.dstore 6, 2) := by decide +kernel
theorem dL_law_592 : decode cL_law 592 = .ok (.dload 4, 2) := by decide +kernel
theorem dL_law_594 : decode cL_law 594 = .ok (.dload 6, 2) := by decide +kernel
theorem dL_law_596 : decode cL_law 596 = .ok (.dcmp .l, 1) := by decide +kernel
theorem dL_law_597 : decode cL_law 597 = .ok (.ifCond .eq 21, 3) := by decide +kernel
theorem dL_law_600 : decode cL_law 600 = .ok (.dload 4, 2) := by decide +kernel
theorem dL_law_602 : decode cL_law 602 = .ok (.dload 4, 2) := by decide +kernel
theorem dL_law_604 : decode cL_law 604 = .ok (.dcmp .l, 1) := by decide +kernel
theorem dL_law_605 : decode cL_law 605 = .ok (.ifCond .eq 11, 3) := by decide +kernel
theorem dL_law_608 : decode cL_law 608 = .ok (.dload 6, 2) := by decide +kernel
theorem dL_law_610 : decode cL_law 610 = .ok (.dload 6, 2) := by decide +kernel
theorem dL_law_612 : decode cL_law 612 = .ok (.dcmp .l, 1) := by decide +kernel
theorem dL_law_613 : decode cL_law 613 = .ok (.ifCond .ne 5, 3) := by decide +kernel
theorem dL_law_616 : decode cL_law 616 = .ok (.iconst 0, 1) := by decide +kernel
theorem dL_law_617 : decode cL_law 617 = .ok (.ireturn, 1) := by decide +kernel
theorem dL_law_618 : decode cL_law 618 = .ok (.goto 118, 3) := by decide +kernel
theorem dL_law_621 : decode cL_law 621 = .ok (.aload_n 1, 1) := by decide +kernel
theorem dL_law_622 : decode cL_law 622 = .ok (.aload_n 0, 1) := by decide +kernel
theorem dL_law_623 : decode cL_law 623 = .ok (.iload_n 3, 1) := by decide +kernel
theorem dL_law_624 : decode cL_law 624 = .ok (.iconst 1, 1) := by decide +kernel
theorem dL_law_625 : decode cL_law 625 = .ok (.iadd, 1) := by decide +kernel
theorem dL_law_626 : decode cL_law 626 = .ok (.iaload, 1) := by decide +kernel
theorem dL_law_627 : decode cL_law 627 = .ok (.aload_n 0, 1) := by decide +kernel
theorem dL_law_628 : decode cL_law 628 = .ok (.iload_n 3, 1) := by decide +kernel
theorem dL_law_629 : decode cL_law 629 = .ok (.iconst 2, 1) := by decide +kernel
theorem dL_law_630 : decode cL_law 630 = .ok (.iadd, 1) := by decide +kernel
theorem dL_law_631 : decode cL_law 631 = .ok (.iaload, 1) := by decide +kernel
theorem dL_law_632 : decode cL_law 632 = .ok (.invokevirtual 94, 3) := by decide +kernel
theorem dL_law_635 : decode cL_law 635 = .ok (.aload_n 2, 1) := by decide +kernel
theorem dL_law_636 : decode cL_law 636 = .ok (.aload_n 0, 1) := by decide +kernel
theorem dL_law_637 : decode cL_law 637 = .ok (.iload_n 3, 1) := by decide +kernel
theorem dL_law_638 : decode cL_law 638 = .ok (.iconst 1, 1) := by decide +kernel
theorem dL_law_639 : decode cL_law 639 = .ok (.iadd, 1) := by decide +kernel
theorem dL_law_640 : decode cL_law 640 = .ok (.iaload, 1) := by decide +kernel
theorem dL_law_641 : decode cL_law 641 = .ok (.aload_n 0, 1) := by decide +kernel
theorem dL_law_642 : decode cL_law 642 = .ok (.iload_n 3, 1) := by decide +kernel
theorem dL_law_643 : decode cL_law 643 = .ok (.iconst 2, 1) := by decide +kernel
theorem dL_law_644 : decode cL_law 644 = .ok (.iadd, 1) := by decide +kernel
theorem dL_law_645 : decode cL_law 645 = .ok (.iaload, 1) := by decide +kernel
theorem dL_law_646 : decode cL_law 646 = .ok (.invokevirtual 97, 3) := by decide +kernel
theorem dL_law_649 : decode cL_law 649 = .ok (.if_icmp .eq 87, 3) := by decide +kernel
theorem dL_law_652 : decode cL_law 652 = .ok (.iconst 0, 1) := by decide +kernel
theorem dL_law_653 : decode cL_law 653 = .ok (.ireturn, 1) := by decide +kernel
theorem dL_law_654 : decode cL_law 654 = .ok (.aload_n 1, 1) := by decide +kernel
theorem dL_law_655 : decode cL_law 655 = .ok (.invokevirtual 98, 3) := by decide +kernel
theorem dL_law_658 : decode cL_law 658 = .ok (.aload_n 2, 1) := by decide +kernel
theorem dL_law_659 : decode cL_law 659 = .ok (.invokevirtual 101, 3) := by decide +kernel
theorem dL_law_662 : decode cL_law 662 = .ok (.if_icmp .eq 74, 3) := by decide +kernel
theorem dL_law_665 : decode cL_law 665 = .ok (.iconst 0, 1) := by decide +kernel
theorem dL_law_666 : decode cL_law 666 = .ok (.ireturn, 1) := by decide +kernel
theorem dL_law_667 : decode cL_law 667 = .ok (.aload_n 1, 1) := by decide +kernel
theorem dL_law_668 : decode cL_law 668 = .ok (.aload_n 0, 1) := by decide +kernel
theorem dL_law_669 : decode cL_law 669 = .ok (.iload_n 3, 1) := by decide +kernel
theorem dL_law_670 : decode cL_law 670 = .ok (.iconst 1, 1) := by decide +kernel
theorem dL_law_671 : decode cL_law 671 = .ok (.iadd, 1) := by decide +kernel
theorem dL_law_672 : decode cL_law 672 = .ok (.iaload, 1) := by decide +kernel
theorem dL_law_673 : decode cL_law 673 = .ok (.invokevirtual 102, 3) := by decide +kernel
theorem dL_law_676 : decode cL_law 676 = .ok (.aload_n 2, 1) := by decide +kernel
theorem dL_law_677 : decode cL_law 677 = .ok (.aload_n 0, 1) := by decide +kernel
theorem dL_law_678 : decode cL_law 678 = .ok (.iload_n 3, 1) := by decide +kernel
theorem dL_law_679 : decode cL_law 679 = .ok (.iconst 1, 1) := by decide +kernel
theorem dL_law_680 : decode cL_law 680 = .ok (.iadd, 1) := by decide +kernel
theorem dL_law_681 : decode cL_law 681 = .ok (.iaload, 1) := by decide +kernel
theorem dL_law_682 : decode cL_law 682 = .ok (.invokevirtual 105, 3) := by decide +kernel
theorem dL_law_685 : decode cL_law 685 = .ok (.if_icmp .eq 51, 3) := by decide +kernel
theorem dL_law_688 : decode cL_law 688 = .ok (.iconst 0, 1) := by decide +kernel
theorem dL_law_689 : decode cL_law 689 = .ok (.ireturn, 1) := by decide +kernel
theorem dL_law_690 : decode cL_law 690 = .ok (.aload_n 1, 1) := by decide +kernel
theorem dL_law_691 : decode cL_law 691 = .ok (.aload_n 0, 1) := by decide +kernel
theorem dL_law_692 : decode cL_law 692 = .ok (.iload_n 3, 1) := by decide +kernel
theorem dL_law_693 : decode cL_law 693 = .ok (.iconst 1, 1) := by decide +kernel
theorem dL_law_694 : decode cL_law 694 = .ok (.iadd, 1) := by decide +kernel
theorem dL_law_695 : decode cL_law 695 = .ok (.iaload, 1) := by decide +kernel
theorem dL_law_696 : decode cL_law 696 = .ok (.invokevirtual 106, 3) := by decide +kernel
theorem dL_law_699 : decode cL_law 699 = .ok (.aload_n 2, 1) := by decide +kernel
theorem dL_law_700 : decode cL_law 700 = .ok (.aload_n 0, 1) := by decide +kernel
theorem dL_law_701 : decode cL_law 701 = .ok (.iload_n 3, 1) := by decide +kernel
theorem dL_law_702 : decode cL_law 702 = .ok (.iconst 1, 1) := by decide +kernel
theorem dL_law_703 : decode cL_law 703 = .ok (.iadd, 1) := by decide +kernel
theorem dL_law_704 : decode cL_law 704 = .ok (.iaload, 1) := by decide +kernel
theorem dL_law_705 : decode cL_law 705 = .ok (.invokevirtual 109, 3) := by decide +kernel
theorem dL_law_708 : decode cL_law 708 = .ok (.if_icmp .eq 28, 3) := by decide +kernel
theorem dL_law_711 : decode cL_law 711 = .ok (.iconst 0, 1) := by decide +kernel
theorem dL_law_712 : decode cL_law 712 = .ok (.ireturn, 1) := by decide +kernel
theorem dL_law_713 : decode cL_law 713 = .ok (.aload_n 1, 1) := by decide +kernel
theorem dL_law_714 : decode cL_law 714 = .ok (.aload_n 0, 1) := by decide +kernel
theorem dL_law_715 : decode cL_law 715 = .ok (.iload_n 3, 1) := by decide +kernel
theorem dL_law_716 : decode cL_law 716 = .ok (.iconst 1, 1) := by decide +kernel
theorem dL_law_717 : decode cL_law 717 = .ok (.iadd, 1) := by decide +kernel
theorem dL_law_718 : decode cL_law 718 = .ok (.iaload, 1) := by decide +kernel
theorem dL_law_719 : decode cL_law 719 = .ok (.invokevirtual 110, 3) := by decide +kernel
theorem dL_law_722 : decode cL_law 722 = .ok (.aload_n 2, 1) := by decide +kernel
theorem dL_law_723 : decode cL_law 723 = .ok (.aload_n 0, 1) := by decide +kernel
theorem dL_law_724 : decode cL_law 724 = .ok (.iload_n 3, 1) := by decide +kernel
theorem dL_law_725 : decode cL_law 725 = .ok (.iconst 1, 1) := by decide +kernel
theorem dL_law_726 : decode cL_law 726 = .ok (.iadd, 1) := by decide +kernel
theorem dL_law_727 : decode cL_law 727 = .ok (.iaload, 1) := by decide +kernel
theorem dL_law_728 : decode cL_law 728 = .ok (.invokevirtual 113, 3) := by decide +kernel
theorem dL_law_731 : decode cL_law 731 = .ok (.if_icmp .eq 5, 3) := by decide +kernel
theorem dL_law_734 : decode cL_law 734 = .ok (.iconst 0, 1) := by decide +kernel
theorem dL_law_735 : decode cL_law 735 = .ok (.ireturn, 1) := by decide +kernel
theorem dL_law_736 : decode cL_law 736 = .ok (.iinc 3 4, 3) := by decide +kernel
theorem dL_law_739 : decode cL_law 739 = .ok (.goto (-721), 3) := by decide +kernel
theorem dL_law_742 : decode cL_law 742 = .ok (.iconst 1, 1) := by decide +kernel
theorem dL_law_743 : decode cL_law 743 = .ok (.ireturn, 1) := by decide +kernel
abbrev rm_L_law : Room := room_1
def k_L_law (L : Nat) (xs : Nat → Int32) : List pEn := [oNew 8 [.null, .null, .null, .null, .null, .null, .int 0, .null, .int 0, .int 0] 0, oDup, oCallA 1 186 F_X8_init, oAstore 1, oNew 9 [.null, .null, .int 0, .null, .int 0, .null, .int 0, .int 0, .int 0, .int 0, .int 0, .int 0, .int 0, .int 0, .null, .int 0, .int 0, .int 0, .int 0, .int 0, .int 0, .null] 179, oDup, oCallA 1 186 F_X9_init, oAstore 2, oConst (0), oIstore 3, oIload 3, oAload 0, oSlen L, oConst (4), oSub, oCgt 458, oAload 0, oIload 3, oSld L xs, oConst (31), oAnd, oSw [(0, 22), (1, 29), (2, 56), (3, 73), (4, 90), (5, 127), (6, 154), (7, 161), (8, 178), (9, 185), (10, 202), (11, 209), (12, 226), (13, 243), (14, 260), (15, 287), (16, 304), (17, 321), (18, 348), (19, 371), (20, 398), (21, 405), (22, 422), (23, 439)] 456, oAload 1, oCallZ 1 (FC F_X8_begin), oAload 2, oCallZ 1 (FM F_X9_begin), oCeq 456, oConst (0), oZret, oAload 1, oAload 0, oIload 3, oConst (1), oAdd, oSld L xs, oAload 0, oIload 3, oConst (2), oAdd, oSld L xs, oCallZ 3 (FC F_X8_set), oAload 2, oAload 0, oIload 3, oConst (1), oAdd, oSld L xs, oAload 0, oIload 3, oConst (2), oAdd, oSld L xs, oCallZ 3 (FM F_X9_set), oCeq 456, oConst (0), oZret, oAload 1, oAload 0, oIload 3, oConst (1), oAdd, oSld L xs, oCallZ 2 (FC F_X8_tear), oAload 2, oAload 0, oIload 3, oConst (1), oAdd, oSld L xs, oCallZ 2 (FM F_X9_tear), oCeq 456, oConst (0), oZret, oAload 1, oAload 0, oIload 3, oConst (1), oAdd, oSld L xs, oCallZ 2 (FC F_X8_change), oAload 2, oAload 0, oIload 3, oConst (1), oAdd, oSld L xs, oCallZ 2 (FM F_X9_change), oCeq 456, oConst (0), oZret, oAload 1, oAload 0, oIload 3, oConst (1), oAdd, oSld L xs, oAload 0, oIload 3, oConst (2), oAdd, oSld L xs, oAload 0, oIload 3, oConst (3), oAdd, oSld L xs, oCallZ 4 (FC F_X8_fill), oAload 2, oAload 0, oIload 3, oConst (1), oAdd, oSld L xs, oAload 0, oIload 3, oConst (2), oAdd, oSld L xs, oAload 0, oIload 3, oConst (3), oAdd, oSld L xs, oCallZ 4 (FM F_X9_fill), oCeq 456, oConst (0), oZret, oAload 1, oAload 0, oIload 3, oConst (1), oAdd, oSld L xs, oAload 0, oIload 3, oConst (2), oAdd, oSld L xs, oCallZ 3 (FC F_X8_drain), oAload 2, oAload 0, oIload 3, oConst (1), oAdd, oSld L xs, oAload 0, oIload 3, oConst (2), oAdd, oSld L xs, oCallZ 3 (FM F_X9_drain), oCeq 456, oConst (0), oZret, oAload 1, oCallZ 1 (FC F_X8_plan), oAload 2, oCallZ 1 (FM F_X9_plan), oCeq 456, oConst (0), oZret, oAload 1, oAload 0, oIload 3, oConst (1), oAdd, oSld L xs, oCallZ 2 (FC F_X8_run), oAload 2, oAload 0, oIload 3, oConst (1), oAdd, oSld L xs, oCallZ 2 (FM F_X9_run), oCeq 456, oConst (0), oZret, oAload 1, oCallZ 1 (FC F_X8_undo), oAload 2, oCallZ 1 (FM F_X9_undo), oCeq 456, oConst (0), oZret, oAload 1, oAload 0, oIload 3, oConst (1), oAdd, oSld L xs, oCallZ 2 (FC F_X8_write), oAload 2, oAload 0, oIload 3, oConst (1), oAdd, oSld L xs, oCallZ 2 (FM F_X9_write), oCeq 456, oConst (0), oZret, oAload 1, oCallZ 1 (FC F_X8_wipe), oAload 2, oCallZ 1 (FM F_X9_wipe), oCeq 456, oConst (0), oZret, oAload 1, oAload 0, oIload 3, oConst (1), oAdd, oSld L xs, oCallZ 2 (FC F_X8_fault), oAload 2, oAload 0, oIload 3, oConst (1), oAdd, oSld L xs, oCallZ 2 (FM F_X9_fault), oCeq 456, oConst (0), oZret, oAload 1, oAload 0, oIload 3, oConst (1), oAdd, oSld L xs, oCallZ 2 (FC F_X8_told), oAload 2, oAload 0, oIload 3, oConst (1), oAdd, oSld L xs, oCallZ 2 (FM F_X9_told), oCeq 456, oConst (0), oZret, oAload 1, oAload 0, oIload 3, oConst (1), oAdd, oSld L xs, oCallZ 2 (FC F_X8_setting), oAload 2, oAload 0, oIload 3, oConst (1), oAdd, oSld L xs, oCallZ 2 (FM F_X9_setting), oCeq 456, oConst (0), oZret, oAload 1, oAload 0, oIload 3, oConst (1), oAdd, oSld L xs, oAload 0, oIload 3, oConst (2), oAdd, oSld L xs, oCallZ 3 (FC F_X8_chest), oAload 2, oAload 0, oIload 3, oConst (1), oAdd, oSld L xs, oAload 0, oIload 3, oConst (2), oAdd, oSld L xs, oCallZ 3 (FM F_X9_chest), oCeq 456, oConst (0), oZret, oAload 1, oAload 0, oIload 3, oConst (1), oAdd, oSld L xs, oCallZ 2 (FC F_X8_account), oAload 2, oAload 0, oIload 3, oConst (1), oAdd, oSld L xs, oCallZ 2 (FM F_X9_account), oCeq 456, oConst (0), oZret, oAload 1, oAload 0, oIload 3, oConst (1), oAdd, oSld L xs, oCallZ 2 (FC F_X8_paper), oAload 2, oAload 0, oIload 3, oConst (1), oAdd, oSld L xs, oCallZ 2 (FM F_X9_paper), oCeq 456, oConst (0), oZret, oAload 1, oAload 0, oIload 3, oConst (1), oAdd, oSld L xs, oAload 0, oIload 3, oConst (2), oAdd, oSld L xs, oCallZ 3 (FC F_X8_entry), oAload 2, oAload 0, oIload 3, oConst (1), oAdd, oSld L xs, oAload 0, oIload 3, oConst (2), oAdd, oSld L xs, oCallZ 3 (FM F_X9_entry), oCeq 456, oConst (0), oZret, oAload 1, oCallZ 1 (FC F_X8_paperShare), oF2d, oDstore 4, oAload 2, oCallZ 1 (FM F_X9_paperShare), oF2d, oDstore 6, oDload 4, oDload 6, oDcmpL, oIfeq 370, oDload 4, oDload 4, oDcmpL, oIfeq 368, oDload 6, oDload 6, oDcmpL, oIfne 370, oConst (0), oZret, oGoto 456, oAload 1, oAload 0, oIload 3, oConst (1), oAdd, oSld L xs, oAload 0, oIload 3, oConst (2), oAdd, oSld L xs, oCallZ 3 (FC F_X8_later), oAload 2, oAload 0, oIload 3, oConst (1), oAdd, oSld L xs, oAload 0, oIload 3, oConst (2), oAdd, oSld L xs, oCallZ 3 (FM F_X9_later), oCeq 456, oConst (0), oZret, oAload 1, oCallZ 1 (FC F_X8_overflow), oAload 2, oCallZ 1 (FM F_X9_overflow), oCeq 456, oConst (0), oZret, oAload 1, oAload 0, oIload 3, oConst (1), oAdd, oSld L xs, oCallZ 2 (FC F_X8_bestLimit), oAload 2, oAload 0, oIload 3, oConst (1), oAdd, oSld L xs, oCallZ 2 (FM F_X9_bestLimit), oCeq 456, oConst (0), oZret, oAload 1, oAload 0, oIload 3, oConst (1), oAdd, oSld L xs, oCallZ 2 (FC F_X8_keep), oAload 2, oAload 0, oIload 3, oConst (1), oAdd, oSld L xs, oCallZ 2 (FM F_X9_keep), oCeq 456, oConst (0), oZret, oAload 1, oAload 0, oIload 3, oConst (1), oAdd, oSld L xs, oCallZ 2 (FC F_X8_back), oAload 2, oAload 0, oIload 3, oConst (1), oAdd, oSld L xs, oCallZ 2 (FM F_X9_back), oCeq 456, oConst (0), oZret, oIinc 3 (4), oGoto 10, oConst (1), oZret]
def pc_L_law (i : Nat) : Nat := ([0, 3, 4, 7, 8, 11, 12, 15, 16, 17, 18, 19, 20, 21, 22, 23, 26, 27, 28, 29, 31, 32, 144, 145, 148, 149, 152, 155, 156, 157, 158, 159, 160, 161, 162, 163, 164, 165, 166, 167, 168, 171, 172, 173, 174, 175, 176, 177, 178, 179, 180, 181, 182, 185, 188, 189, 190, 191, 192, 193, 194, 195, 196, 199, 200, 201, 202, 203, 204, 205, 208, 211, 212, 213, 214, 215, 216, 217, 218, 219, 222, 223, 224, 225, 226, 227, 228, 231, 234, 235, 236, 237, 238, 239, 240, 241, 242, 243, 244, 245, 246, 247, 248, 249, 250, 251, 252, 255, 256, 257, 258, 259, 260, 261, 262, 263, 264, 265, 266, 267, 268, 269, 270, 271, 274, 277, 278, 279, 280, 281, 282, 283, 284, 285, 286, 287, 288, 289, 290, 293, 294, 295, 296, 297, 298, 299, 300, 301, 302, 303, 304, 307, 310, 311, 312, 313, 316, 317, 320, 323, 324, 325, 326, 327, 328, 329, 330, 331, 334, 335, 336, 337, 338, 339, 340, 343, 346, 347, 348, 349, 352, 353, 356, 359, 360, 361, 362, 363, 364, 365, 366, 367, 370, 371, 372, 373, 374, 375, 376, 379, 382, 383, 384, 385, 388, 389, 392, 395, 396, 397, 398, 399, 400, 401, 402, 403, 406, 407, 408, 409, 410, 411, 412, 415, 418, 419, 420, 421, 422, 423, 424, 425, 426, 429, 430, 431, 432, 433, 434, 435, 438, 441, 442, 443, 444, 445, 446, 447, 448, 449, 452, 453, 454, 455, 456, 457, 458, 461, 464, 465, 466, 467, 468, 469, 470, 471, 472, 473, 474, 475, 476, 477, 480, 481, 482, 483, 484, 485, 486, 487, 488, 489, 490, 491, 494, 497, 498, 499, 500, 501, 502, 503, 504, 505, 508, 509, 510, 511, 512, 513, 514, 517, 520, 521, 522, 523, 524, 525, 526, 527, 528, 531, 532, 533, 534, 535, 536, 537, 540, 543, 544, 545, 546, 547, 548, 549, 550, 551, 552, 553, 554, 555, 556, 559, 560, 561, 562, 563, 564, 565, 566, 567, 568, 569, 570, 573, 576, 577, 578, 579, 582, 583, 585, 586, 589, 590, 592, 594, 596, 597, 600, 602, 604, 605, 608, 610, 612, 613, 616, 617, 618, 621, 622, 623, 624, 625, 626, 627, 628, 629, 630, 631, 632, 635, 636, 637, 638, 639, 640, 641, 642, 643, 644, 645, 646, 649, 652, 653, 654, 655, 658, 659, 662, 665, 666, 667, 668, 669, 670, 671, 672, 673, 676, 677, 678, 679, 680, 681, 682, 685, 688, 689, 690, 691, 692, 693, 694, 695, 696, 699, 700, 701, 702, 703, 704, 705, 708, 711, 712, 713, 714, 715, 716, 717, 718, 719, 722, 723, 724, 725, 726, 727, 728, 731, 734, 735, 736, 739, 742, 743] : List Nat).getD i 0
set_option maxRecDepth 100000 in
set_option maxHeartbeats 8000000 in
theorem ok_k_L_law (L : Nat) (xs : Nat → Int32) (l : Launch) : ∀ (i : Nat) (en : pEn), (k_L_law L xs)[i]? = some en → EOKl L xs l cL_law yL_law.cls 8 (some FieldType.boolean) rm_L_law 186 pc_L_law i en := by
  refine allOK_at ?_
  refine And.intro (EOK.l (okNew (C := RX8) (T := TX8) (N := 10) dL_law_0 rfl rfl inX8 tyX8_ok wm_1_12 wm_1_13 wm_1_1 (by intro j hj; rcases (show j = 0 ∨ j = 1 ∨ j = 2 ∨ j = 3 ∨ j = 4 ∨ j = 5 ∨ j = 6 ∨ j = 7 ∨ j = 8 ∨ j = 9 by omega) with rfl | rfl | rfl | rfl | rfl | rfl | rfl | rfl | rfl | rfl <;> rfl) (fun _ => rfl) (by decide) (by decide))) ?_
  refine And.intro (EOK.l (okDup dL_law_3 rfl)) ?_
  refine And.intro (EOK.l (okCallI (y := yX8_init) (oCallA_is _ _ _) dL_law_4 rfl (ok_F_X8_init l) (fun _ _ _ _ h => frC_args h) wm_1_14 wm_1_15 wm_1_1 wm_1_16 rfl pl_X8_init (by decide))) ?_
  refine And.intro (EOK.l (okAstore_n dL_law_7 rfl rfl (by decide))) ?_
  refine And.intro (EOK.l (okNew (C := RX9) (T := TX9) (N := 22) dL_law_8 rfl rfl inX9 tyX9_ok wm_3_131 wm_3_132 wm_1_10 (by intro j hj; rcases (show j = 0 ∨ j = 1 ∨ j = 2 ∨ j = 3 ∨ j = 4 ∨ j = 5 ∨ j = 6 ∨ j = 7 ∨ j = 8 ∨ j = 9 ∨ j = 10 ∨ j = 11 ∨ j = 12 ∨ j = 13 ∨ j = 14 ∨ j = 15 ∨ j = 16 ∨ j = 17 ∨ j = 18 ∨ j = 19 ∨ j = 20 ∨ j = 21 by omega) with rfl | rfl | rfl | rfl | rfl | rfl | rfl | rfl | rfl | rfl | rfl | rfl | rfl | rfl | rfl | rfl | rfl | rfl | rfl | rfl | rfl | rfl <;> rfl) (fun _ => rfl) (by decide) (by decide))) ?_
  refine And.intro (EOK.l (okDup dL_law_11 rfl)) ?_
  refine And.intro (EOK.l (okCallI (y := yX9_init) (oCallA_is _ _ _) dL_law_12 rfl (ok_F_X9_init l) (fun _ _ _ _ h => frC_args h) wm_3_133 wm_3_134 wm_1_10 wm_3_135 rfl pl_X9_init (by decide))) ?_
  refine And.intro (EOK.l (okAstore_n dL_law_15 rfl rfl (by decide))) ?_
  refine And.intro (EOK.l (okIconst dL_law_16 rfl (by first | rfl | decide))) ?_
  refine And.intro (EOK.l (okIstore_n dL_law_17 rfl rfl (by decide))) ?_
  refine And.intro (EOK.l (okIload_n dL_law_18 rfl rfl)) ?_
  refine And.intro (EOK.l (okAload_n dL_law_19 rfl rfl)) ?_
  refine And.intro (okSlen dL_law_20 rfl) ?_
  refine And.intro (EOK.l (okIconst dL_law_21 rfl (by first | rfl | decide))) ?_
  refine And.intro (EOK.l (okSub dL_law_22 rfl)) ?_
  refine And.intro (EOK.l (okCgt dL_law_23 rfl (by rfl))) ?_
  refine And.intro (EOK.l (okAload_n dL_law_26 rfl rfl)) ?_
  refine And.intro (EOK.l (okIload_n dL_law_27 rfl rfl)) ?_
  refine And.intro (okSld dL_law_28 rfl) ?_
  refine And.intro (EOK.l (okBipush dL_law_29 rfl (by first | rfl | decide))) ?_
  refine And.intro (EOK.l (okAnd dL_law_31 rfl)) ?_
  refine And.intro (EOK.l (okTsw dL_law_32 (by decide) (by rfl) (by intro z h1 h2; have : z = 0 ∨ z = 1 ∨ z = 2 ∨ z = 3 ∨ z = 4 ∨ z = 5 ∨ z = 6 ∨ z = 7 ∨ z = 8 ∨ z = 9 ∨ z = 10 ∨ z = 11 ∨ z = 12 ∨ z = 13 ∨ z = 14 ∨ z = 15 ∨ z = 16 ∨ z = 17 ∨ z = 18 ∨ z = 19 ∨ z = 20 ∨ z = 21 ∨ z = 22 ∨ z = 23 := (by omega); rcases this with rfl | rfl | rfl | rfl | rfl | rfl | rfl | rfl | rfl | rfl | rfl | rfl | rfl | rfl | rfl | rfl | rfl | rfl | rfl | rfl | rfl | rfl | rfl | rfl <;> decide))) ?_
  refine And.intro (EOK.l (okAload_n dL_law_144 rfl rfl)) ?_
  refine And.intro (EOK.l (okCallV (y := yX8_begin) (T := TX8) (oCallZ_is _ _ _) dL_law_145 rfl (pFOK_FC (ok_F_X8_begin l)) (rc_FC _) rfl wm_2_63 wm_2_64 wm_2_65 wm_1_1 wm_2_66 pl_X8_begin (by decide))) ?_
  refine And.intro (EOK.l (okAload_n dL_law_148 rfl rfl)) ?_
  refine And.intro (EOK.l (okCallV (y := yX9_begin) (T := TX9) (oCallZ_is _ _ _) dL_law_149 rfl (pFOK_FM (ok_F_X9_begin l)) (rc_FM _) rfl wm_3_208 wm_3_209 wm_3_210 wm_1_10 wm_3_211 pl_X9_begin (by decide))) ?_
  refine And.intro (EOK.l (okCeq dL_law_152 rfl (by rfl))) ?_
  refine And.intro (EOK.l (okIconst dL_law_155 rfl (by first | rfl | decide))) ?_
  refine And.intro (EOK.l (okZret dL_law_156 rfl)) ?_
  refine And.intro (EOK.l (okAload_n dL_law_157 rfl rfl)) ?_
  refine And.intro (EOK.l (okAload_n dL_law_158 rfl rfl)) ?_
  refine And.intro (EOK.l (okIload_n dL_law_159 rfl rfl)) ?_
  refine And.intro (EOK.l (okIconst dL_law_160 rfl (by first | rfl | decide))) ?_
  refine And.intro (EOK.l (okAdd dL_law_161 rfl)) ?_
  refine And.intro (okSld dL_law_162 rfl) ?_
  refine And.intro (EOK.l (okAload_n dL_law_163 rfl rfl)) ?_
  refine And.intro (EOK.l (okIload_n dL_law_164 rfl rfl)) ?_
  refine And.intro (EOK.l (okIconst dL_law_165 rfl (by first | rfl | decide))) ?_
  refine And.intro (EOK.l (okAdd dL_law_166 rfl)) ?_
  refine And.intro (okSld dL_law_167 rfl) ?_
  refine And.intro (EOK.l (okCallV (y := yX8_set) (T := TX8) (oCallZ_is _ _ _) dL_law_168 rfl (pFOK_FC (ok_F_X8_set l)) (rc_FC _) rfl wm_2_98 wm_2_99 wm_2_100 wm_1_1 wm_2_101 pl_X8_set (by decide))) ?_
  refine And.intro (EOK.l (okAload_n dL_law_171 rfl rfl)) ?_
  refine And.intro (EOK.l (okAload_n dL_law_172 rfl rfl)) ?_
  refine And.intro (EOK.l (okIload_n dL_law_173 rfl rfl)) ?_
  refine And.intro (EOK.l (okIconst dL_law_174 rfl (by first | rfl | decide))) ?_
  refine And.intro (EOK.l (okAdd dL_law_175 rfl)) ?_
  refine And.intro (okSld dL_law_176 rfl) ?_
  refine And.intro (EOK.l (okAload_n dL_law_177 rfl rfl)) ?_
  refine And.intro (EOK.l (okIload_n dL_law_178 rfl rfl)) ?_
  refine And.intro (EOK.l (okIconst dL_law_179 rfl (by first | rfl | decide))) ?_
  refine And.intro (EOK.l (okAdd dL_law_180 rfl)) ?_
  refine And.intro (okSld dL_law_181 rfl) ?_
  refine And.intro (EOK.l (okCallV (y := yX9_set) (T := TX9) (oCallZ_is _ _ _) dL_law_182 rfl (pFOK_FM (ok_F_X9_set l)) (rc_FM _) rfl wm_3_216 wm_3_217 wm_3_218 wm_1_10 wm_3_219 pl_X9_set (by decide))) ?_
  refine And.intro (EOK.l (okCeq dL_law_185 rfl (by rfl))) ?_
  refine And.intro (EOK.l (okIconst dL_law_188 rfl (by first | rfl | decide))) ?_
  refine And.intro (EOK.l (okZret dL_law_189 rfl)) ?_
  refine And.intro (EOK.l (okAload_n dL_law_190 rfl rfl)) ?_
  refine And.intro (EOK.l (okAload_n dL_law_191 rfl rfl)) ?_
  refine And.intro (EOK.l (okIload_n dL_law_192 rfl rfl)) ?_
  refine And.intro (EOK.l (okIconst dL_law_193 rfl (by first | rfl | decide))) ?_
  refine And.intro (EOK.l (okAdd dL_law_194 rfl)) ?_
  refine And.intro (okSld dL_law_195 rfl) ?_
  refine And.intro (EOK.l (okCallV (y := yX8_tear) (T := TX8) (oCallZ_is _ _ _) dL_law_196 rfl (pFOK_FC (ok_F_X8_tear l)) (rc_FC _) rfl wm_2_106 wm_2_107 wm_2_108 wm_1_1 wm_2_109 pl_X8_tear (by decide))) ?_
  refine And.intro (EOK.l (okAload_n dL_law_199 rfl rfl)) ?_
  refine And.intro (EOK.l (okAload_n dL_law_200 rfl rfl)) ?_
  refine And.intro (EOK.l (okIload_n dL_law_201 rfl rfl)) ?_
  refine And.intro (EOK.l (okIconst dL_law_202 rfl (by first | rfl | decide))) ?_
  refine And.intro (EOK.l (okAdd dL_law_203 rfl)) ?_
  refine And.intro (okSld dL_law_204 rfl) ?_
  refine And.intro (EOK.l (okCallV (y := yX9_tear) (T := TX9) (oCallZ_is _ _ _) dL_law_205 rfl (pFOK_FM (ok_F_X9_tear l)) (rc_FM _) rfl wm_3_226 wm_3_227 wm_3_228 wm_1_10 wm_3_229 pl_X9_tear (by decide))) ?_
  refine And.intro (EOK.l (okCeq dL_law_208 rfl (by rfl))) ?_
  refine And.intro (EOK.l (okIconst dL_law_211 rfl (by first | rfl | decide))) ?_
  refine And.intro (EOK.l (okZret dL_law_212 rfl)) ?_
  refine And.intro (EOK.l (okAload_n dL_law_213 rfl rfl)) ?_
  refine And.intro (EOK.l (okAload_n dL_law_214 rfl rfl)) ?_
  refine And.intro (EOK.l (okIload_n dL_law_215 rfl rfl)) ?_
  refine And.intro (EOK.l (okIconst dL_law_216 rfl (by first | rfl | decide))) ?_
  refine And.intro (EOK.l (okAdd dL_law_217 rfl)) ?_
  refine And.intro (okSld dL_law_218 rfl) ?_
  refine And.intro (EOK.l (okCallV (y := yX8_change) (T := TX8) (oCallZ_is _ _ _) dL_law_219 rfl (pFOK_FC (ok_F_X8_change l)) (rc_FC _) rfl wm_2_117 wm_2_118 wm_2_119 wm_1_1 wm_2_120 pl_X8_change (by decide))) ?_
  refine And.intro (EOK.l (okAload_n dL_law_222 rfl rfl)) ?_
  refine And.intro (EOK.l (okAload_n dL_law_223 rfl rfl)) ?_
  refine And.intro (EOK.l (okIload_n dL_law_224 rfl rfl)) ?_
  refine And.intro (EOK.l (okIconst dL_law_225 rfl (by first | rfl | decide))) ?_
  refine And.intro (EOK.l (okAdd dL_law_226 rfl)) ?_
  refine And.intro (okSld dL_law_227 rfl) ?_
  refine And.intro (EOK.l (okCallV (y := yX9_change) (T := TX9) (oCallZ_is _ _ _) dL_law_228 rfl (pFOK_FM (ok_F_X9_change l)) (rc_FM _) rfl wm_3_234 wm_3_235 wm_3_236 wm_1_10 wm_3_237 pl_X9_change (by decide))) ?_
  refine And.intro (EOK.l (okCeq dL_law_231 rfl (by rfl))) ?_
  refine And.intro (EOK.l (okIconst dL_law_234 rfl (by first | rfl | decide))) ?_
  refine And.intro (EOK.l (okZret dL_law_235 rfl)) ?_
  refine And.intro (EOK.l (okAload_n dL_law_236 rfl rfl)) ?_
  refine And.intro (EOK.l (okAload_n dL_law_237 rfl rfl)) ?_
  refine And.intro (EOK.l (okIload_n dL_law_238 rfl rfl)) ?_
  refine And.intro (EOK.l (okIconst dL_law_239 rfl (by first | rfl | decide))) ?_
  refine And.intro (EOK.l (okAdd dL_law_240 rfl)) ?_
  refine And.intro (okSld dL_law_241 rfl) ?_
  refine And.intro (EOK.l (okAload_n dL_law_242 rfl rfl)) ?_
  refine And.intro (EOK.l (okIload_n dL_law_243 rfl rfl)) ?_
  refine And.intro (EOK.l (okIconst dL_law_244 rfl (by first | rfl | decide))) ?_
  refine And.intro (EOK.l (okAdd dL_law_245 rfl)) ?_
  refine And.intro (okSld dL_law_246 rfl) ?_
  refine And.intro (EOK.l (okAload_n dL_law_247 rfl rfl)) ?_
  refine And.intro (EOK.l (okIload_n dL_law_248 rfl rfl)) ?_
  refine And.intro (EOK.l (okIconst dL_law_249 rfl (by first | rfl | decide))) ?_
  refine And.intro (EOK.l (okAdd dL_law_250 rfl)) ?_
  refine And.intro (okSld dL_law_251 rfl) ?_
  refine And.intro (EOK.l (okCallV (y := yX8_fill) (T := TX8) (oCallZ_is _ _ _) dL_law_252 rfl (pFOK_FC (ok_F_X8_fill l)) (rc_FC _) rfl wm_2_125 wm_2_126 wm_2_127 wm_1_1 wm_2_128 pl_X8_fill (by decide))) ?_
  refine And.intro (EOK.l (okAload_n dL_law_255 rfl rfl)) ?_
  refine And.intro (EOK.l (okAload_n dL_law_256 rfl rfl)) ?_
  refine And.intro (EOK.l (okIload_n dL_law_257 rfl rfl)) ?_
  refine And.intro (EOK.l (okIconst dL_law_258 rfl (by first | rfl | decide))) ?_
  refine And.intro (EOK.l (okAdd dL_law_259 rfl)) ?_
  refine And.intro (okSld dL_law_260 rfl) ?_
  refine And.intro (EOK.l (okAload_n dL_law_261 rfl rfl)) ?_
  refine And.intro (EOK.l (okIload_n dL_law_262 rfl rfl)) ?_
  refine And.intro (EOK.l (okIconst dL_law_263 rfl (by first | rfl | decide))) ?_
  refine And.intro (EOK.l (okAdd dL_law_264 rfl)) ?_
  refine And.intro (okSld dL_law_265 rfl) ?_
  refine And.intro (EOK.l (okAload_n dL_law_266 rfl rfl)) ?_
  refine And.intro (EOK.l (okIload_n dL_law_267 rfl rfl)) ?_
  refine And.intro (EOK.l (okIconst dL_law_268 rfl (by first | rfl | decide))) ?_
  refine And.intro (EOK.l (okAdd dL_law_269 rfl)) ?_
  refine And.intro (okSld dL_law_270 rfl) ?_
  refine And.intro (EOK.l (okCallV (y := yX9_fill) (T := TX9) (oCallZ_is _ _ _) dL_law_271 rfl (pFOK_FM (ok_F_X9_fill l)) (rc_FM _) rfl wm_4_2 wm_4_3 wm_4_4 wm_1_10 wm_4_5 pl_X9_fill (by decide))) ?_
  refine And.intro (EOK.l (okCeq dL_law_274 rfl (by rfl))) ?_
  refine And.intro (EOK.l (okIconst dL_law_277 rfl (by first | rfl | decide))) ?_
  refine And.intro (EOK.l (okZret dL_law_278 rfl)) ?_
  refine And.intro (EOK.l (okAload_n dL_law_279 rfl rfl)) ?_
  refine And.intro (EOK.l (okAload_n dL_law_280 rfl rfl)) ?_
  refine And.intro (EOK.l (okIload_n dL_law_281 rfl rfl)) ?_
  refine And.intro (EOK.l (okIconst dL_law_282 rfl (by first | rfl | decide))) ?_
  refine And.intro (EOK.l (okAdd dL_law_283 rfl)) ?_
  refine And.intro (okSld dL_law_284 rfl) ?_
  refine And.intro (EOK.l (okAload_n dL_law_285 rfl rfl)) ?_
  refine And.intro (EOK.l (okIload_n dL_law_286 rfl rfl)) ?_
  refine And.intro (EOK.l (okIconst dL_law_287 rfl (by first | rfl | decide))) ?_
  refine And.intro (EOK.l (okAdd dL_law_288 rfl)) ?_
  refine And.intro (okSld dL_law_289 rfl) ?_
  refine And.intro (EOK.l (okCallV (y := yX8_drain) (T := TX8) (oCallZ_is _ _ _) dL_law_290 rfl (pFOK_FC (ok_F_X8_drain l)) (rc_FC _) rfl wm_2_146 wm_2_147 wm_2_148 wm_1_1 wm_2_149 pl_X8_drain (by decide))) ?_
  refine And.intro (EOK.l (okAload_n dL_law_293 rfl rfl)) ?_
  refine And.intro (EOK.l (okAload_n dL_law_294 rfl rfl)) ?_
  refine And.intro (EOK.l (okIload_n dL_law_295 rfl rfl)) ?_
  refine And.intro (EOK.l (okIconst dL_law_296 rfl (by first | rfl | decide))) ?_
  refine And.intro (EOK.l (okAdd dL_law_297 rfl)) ?_
  refine And.intro (okSld dL_law_298 rfl) ?_
  refine And.intro (EOK.l (okAload_n dL_law_299 rfl rfl)) ?_
  refine And.intro (EOK.l (okIload_n dL_law_300 rfl rfl)) ?_
  refine And.intro (EOK.l (okIconst dL_law_301 rfl (by first | rfl | decide))) ?_
  refine And.intro (EOK.l (okAdd dL_law_302 rfl)) ?_
  refine And.intro (okSld dL_law_303 rfl) ?_
  refine And.intro (EOK.l (okCallV (y := yX9_drain) (T := TX9) (oCallZ_is _ _ _) dL_law_304 rfl (pFOK_FM (ok_F_X9_drain l)) (rc_FM _) rfl wm_4_25 wm_4_26 wm_4_27 wm_1_10 wm_4_28 pl_X9_drain (by decide))) ?_
  refine And.intro (EOK.l (okCeq dL_law_307 rfl (by rfl))) ?_
  refine And.intro (EOK.l (okIconst dL_law_310 rfl (by first | rfl | decide))) ?_
  refine And.intro (EOK.l (okZret dL_law_311 rfl)) ?_
  refine And.intro (EOK.l (okAload_n dL_law_312 rfl rfl)) ?_
  refine And.intro (EOK.l (okCallV (y := yX8_plan) (T := TX8) (oCallZ_is _ _ _) dL_law_313 rfl (pFOK_FC (ok_F_X8_plan l)) (rc_FC _) rfl wm_2_156 wm_2_157 wm_2_158 wm_1_1 wm_2_159 pl_X8_plan (by decide))) ?_
  refine And.intro (EOK.l (okAload_n dL_law_316 rfl rfl)) ?_
  refine And.intro (EOK.l (okCallV (y := yX9_plan) (T := TX9) (oCallZ_is _ _ _) dL_law_317 rfl (pFOK_FM (ok_F_X9_plan l)) (rc_FM _) rfl wm_4_29 wm_4_30 wm_4_31 wm_1_10 wm_4_32 pl_X9_plan (by decide))) ?_
  refine And.intro (EOK.l (okCeq dL_law_320 rfl (by rfl))) ?_
  refine And.intro (EOK.l (okIconst dL_law_323 rfl (by first | rfl | decide))) ?_
  refine And.intro (EOK.l (okZret dL_law_324 rfl)) ?_
  refine And.intro (EOK.l (okAload_n dL_law_325 rfl rfl)) ?_
  refine And.intro (EOK.l (okAload_n dL_law_326 rfl rfl)) ?_
  refine And.intro (EOK.l (okIload_n dL_law_327 rfl rfl)) ?_
  refine And.intro (EOK.l (okIconst dL_law_328 rfl (by first | rfl | decide))) ?_
  refine And.intro (EOK.l (okAdd dL_law_329 rfl)) ?_
  refine And.intro (okSld dL_law_330 rfl) ?_
  refine And.intro (EOK.l (okCallV (y := yX8_run) (T := TX8) (oCallZ_is _ _ _) dL_law_331 rfl (pFOK_FC (ok_F_X8_run l)) (rc_FC _) rfl wm_2_205 wm_2_206 wm_2_207 wm_1_1 wm_2_208 pl_X8_run (by decide))) ?_
  refine And.intro (EOK.l (okAload_n dL_law_334 rfl rfl)) ?_
  refine And.intro (EOK.l (okAload_n dL_law_335 rfl rfl)) ?_
  refine And.intro (EOK.l (okIload_n dL_law_336 rfl rfl)) ?_
  refine And.intro (EOK.l (okIconst dL_law_337 rfl (by first | rfl | decide))) ?_
  refine And.intro (EOK.l (okAdd dL_law_338 rfl)) ?_
  refine And.intro (okSld dL_law_339 rfl) ?_
  refine And.intro (EOK.l (okCallV (y := yX9_run) (T := TX9) (oCallZ_is _ _ _) dL_law_340 rfl (pFOK_FM (ok_F_X9_run l)) (rc_FM _) rfl wm_4_60 wm_4_61 wm_4_62 wm_1_10 wm_4_63 pl_X9_run (by decide))) ?_
  refine And.intro (EOK.l (okCeq dL_law_343 rfl (by rfl))) ?_
  refine And.intro (EOK.l (okIconst dL_law_346 rfl (by first | rfl | decide))) ?_
  refine And.intro (EOK.l (okZret dL_law_347 rfl)) ?_
  refine And.intro (EOK.l (okAload_n dL_law_348 rfl rfl)) ?_
  refine And.intro (EOK.l (okCallV (y := yX8_undo) (T := TX8) (oCallZ_is _ _ _) dL_law_349 rfl (pFOK_FC (ok_F_X8_undo l)) (rc_FC _) rfl wm_3_42 wm_3_43 wm_3_44 wm_1_1 wm_3_45 pl_X8_undo (by decide))) ?_
  refine And.intro (EOK.l (okAload_n dL_law_352 rfl rfl)) ?_
  refine And.intro (EOK.l (okCallV (y := yX9_undo) (T := TX9) (oCallZ_is _ _ _) dL_law_353 rfl (pFOK_FM (ok_F_X9_undo l)) (rc_FM _) rfl wm_4_96 wm_4_97 wm_4_98 wm_1_10 wm_4_99 pl_X9_undo (by decide))) ?_
  refine And.intro (EOK.l (okCeq dL_law_356 rfl (by rfl))) ?_
  refine And.intro (EOK.l (okIconst dL_law_359 rfl (by first | rfl | decide))) ?_
  refine And.intro (EOK.l (okZret dL_law_360 rfl)) ?_
  refine And.intro (EOK.l (okAload_n dL_law_361 rfl rfl)) ?_
  refine And.intro (EOK.l (okAload_n dL_law_362 rfl rfl)) ?_
  refine And.intro (EOK.l (okIload_n dL_law_363 rfl rfl)) ?_
  refine And.intro (EOK.l (okIconst dL_law_364 rfl (by first | rfl | decide))) ?_
  refine And.intro (EOK.l (okAdd dL_law_365 rfl)) ?_
  refine And.intro (okSld dL_law_366 rfl) ?_
  refine And.intro (EOK.l (okCallV (y := yX8_write) (T := TX8) (oCallZ_is _ _ _) dL_law_367 rfl (pFOK_FC (ok_F_X8_write l)) (rc_FC _) rfl wm_3_50 wm_3_51 wm_3_52 wm_1_1 wm_3_53 pl_X8_write (by decide))) ?_
  refine And.intro (EOK.l (okAload_n dL_law_370 rfl rfl)) ?_
  refine And.intro (EOK.l (okAload_n dL_law_371 rfl rfl)) ?_
  refine And.intro (EOK.l (okIload_n dL_law_372 rfl rfl)) ?_
  refine And.intro (EOK.l (okIconst dL_law_373 rfl (by first | rfl | decide))) ?_
  refine And.intro (EOK.l (okAdd dL_law_374 rfl)) ?_
  refine And.intro (okSld dL_law_375 rfl) ?_
  refine And.intro (EOK.l (okCallV (y := yX9_write) (T := TX9) (oCallZ_is _ _ _) dL_law_376 rfl (pFOK_FM (ok_F_X9_write l)) (rc_FM _) rfl wm_4_100 wm_4_101 wm_4_102 wm_1_10 wm_4_103 pl_X9_write (by decide))) ?_
  refine And.intro (EOK.l (okCeq dL_law_379 rfl (by rfl))) ?_
  refine And.intro (EOK.l (okIconst dL_law_382 rfl (by first | rfl | decide))) ?_
  refine And.intro (EOK.l (okZret dL_law_383 rfl)) ?_
  refine And.intro (EOK.l (okAload_n dL_law_384 rfl rfl)) ?_
  refine And.intro (EOK.l (okCallV (y := yX8_wipe) (T := TX8) (oCallZ_is _ _ _) dL_law_385 rfl (pFOK_FC (ok_F_X8_wipe l)) (rc_FC _) rfl wm_3_54 wm_3_55 wm_3_56 wm_1_1 wm_3_57 pl_X8_wipe (by decide))) ?_
  refine And.intro (EOK.l (okAload_n dL_law_388 rfl rfl)) ?_
  refine And.intro (EOK.l (okCallV (y := yX9_wipe) (T := TX9) (oCallZ_is _ _ _) dL_law_389 rfl (pFOK_FM (ok_F_X9_wipe l)) (rc_FM _) rfl wm_4_104 wm_4_105 wm_4_106 wm_1_10 wm_4_107 pl_X9_wipe (by decide))) ?_
  refine And.intro (EOK.l (okCeq dL_law_392 rfl (by rfl))) ?_
  refine And.intro (EOK.l (okIconst dL_law_395 rfl (by first | rfl | decide))) ?_
  refine And.intro (EOK.l (okZret dL_law_396 rfl)) ?_
  refine And.intro (EOK.l (okAload_n dL_law_397 rfl rfl)) ?_
  refine And.intro (EOK.l (okAload_n dL_law_398 rfl rfl)) ?_
  refine And.intro (EOK.l (okIload_n dL_law_399 rfl rfl)) ?_
  refine And.intro (EOK.l (okIconst dL_law_400 rfl (by first | rfl | decide))) ?_
  refine And.intro (EOK.l (okAdd dL_law_401 rfl)) ?_
  refine And.intro (okSld dL_law_402 rfl) ?_
  refine And.intro (EOK.l (okCallV (y := yX8_fault) (T := TX8) (oCallZ_is _ _ _) dL_law_403 rfl (pFOK_FC (ok_F_X8_fault l)) (rc_FC _) rfl wm_3_58 wm_3_59 wm_3_60 wm_1_1 wm_3_61 pl_X8_fault (by decide))) ?_
  refine And.intro (EOK.l (okAload_n dL_law_406 rfl rfl)) ?_
  refine And.intro (EOK.l (okAload_n dL_law_407 rfl rfl)) ?_
  refine And.intro (EOK.l (okIload_n dL_law_408 rfl rfl)) ?_
  refine And.intro (EOK.l (okIconst dL_law_409 rfl (by first | rfl | decide))) ?_
  refine And.intro (EOK.l (okAdd dL_law_410 rfl)) ?_
  refine And.intro (okSld dL_law_411 rfl) ?_
  refine And.intro (EOK.l (okCallV (y := yX9_fault) (T := TX9) (oCallZ_is _ _ _) dL_law_412 rfl (pFOK_FM (ok_F_X9_fault l)) (rc_FM _) rfl wm_4_108 wm_4_109 wm_4_110 wm_1_10 wm_4_111 pl_X9_fault (by decide))) ?_
  refine And.intro (EOK.l (okCeq dL_law_415 rfl (by rfl))) ?_
  refine And.intro (EOK.l (okIconst dL_law_418 rfl (by first | rfl | decide))) ?_
  refine And.intro (EOK.l (okZret dL_law_419 rfl)) ?_
  refine And.intro (EOK.l (okAload_n dL_law_420 rfl rfl)) ?_
  refine And.intro (EOK.l (okAload_n dL_law_421 rfl rfl)) ?_
  refine And.intro (EOK.l (okIload_n dL_law_422 rfl rfl)) ?_
  refine And.intro (EOK.l (okIconst dL_law_423 rfl (by first | rfl | decide))) ?_
  refine And.intro (EOK.l (okAdd dL_law_424 rfl)) ?_
  refine And.intro (okSld dL_law_425 rfl) ?_
  refine And.intro (EOK.l (okCallV (y := yX8_told) (T := TX8) (oCallZ_is _ _ _) dL_law_426 rfl (pFOK_FC (ok_F_X8_told l)) (rc_FC _) rfl wm_3_62 wm_3_63 wm_3_64 wm_1_1 wm_3_65 pl_X8_told (by decide))) ?_
  refine And.intro (EOK.l (okAload_n dL_law_429 rfl rfl)) ?_
  refine And.intro (EOK.l (okAload_n dL_law_430 rfl rfl)) ?_
  refine And.intro (EOK.l (okIload_n dL_law_431 rfl rfl)) ?_
  refine And.intro (EOK.l (okIconst dL_law_432 rfl (by first | rfl | decide))) ?_
  refine And.intro (EOK.l (okAdd dL_law_433 rfl)) ?_
  refine And.intro (okSld dL_law_434 rfl) ?_
  refine And.intro (EOK.l (okCallV (y := yX9_told) (T := TX9) (oCallZ_is _ _ _) dL_law_435 rfl (pFOK_FM (ok_F_X9_told l)) (rc_FM _) rfl wm_4_112 wm_4_113 wm_4_114 wm_1_10 wm_4_115 pl_X9_told (by decide))) ?_
  refine And.intro (EOK.l (okCeq dL_law_438 rfl (by rfl))) ?_
  refine And.intro (EOK.l (okIconst dL_law_441 rfl (by first | rfl | decide))) ?_
  refine And.intro (EOK.l (okZret dL_law_442 rfl)) ?_
  refine And.intro (EOK.l (okAload_n dL_law_443 rfl rfl)) ?_
  refine And.intro (EOK.l (okAload_n dL_law_444 rfl rfl)) ?_
  refine And.intro (EOK.l (okIload_n dL_law_445 rfl rfl)) ?_
  refine And.intro (EOK.l (okIconst dL_law_446 rfl (by first | rfl | decide))) ?_
  refine And.intro (EOK.l (okAdd dL_law_447 rfl)) ?_
  refine And.intro (okSld dL_law_448 rfl) ?_
  refine And.intro (EOK.l (okCallV (y := yX8_setting) (T := TX8) (oCallZ_is _ _ _) dL_law_449 rfl (pFOK_FC (ok_F_X8_setting l)) (rc_FC _) rfl wm_3_74 wm_3_75 wm_3_76 wm_1_1 wm_3_77 pl_X8_setting (by decide))) ?_
  refine And.intro (EOK.l (okAload_n dL_law_452 rfl rfl)) ?_
  refine And.intro (EOK.l (okAload_n dL_law_453 rfl rfl)) ?_
  refine And.intro (EOK.l (okIload_n dL_law_454 rfl rfl)) ?_
  refine And.intro (EOK.l (okIconst dL_law_455 rfl (by first | rfl | decide))) ?_
  refine And.intro (EOK.l (okAdd dL_law_456 rfl)) ?_
  refine And.intro (okSld dL_law_457 rfl) ?_
  refine And.intro (EOK.l (okCallV (y := yX9_setting) (T := TX9) (oCallZ_is _ _ _) dL_law_458 rfl (pFOK_FM (ok_F_X9_setting l)) (rc_FM _) rfl wm_4_120 wm_4_121 wm_4_122 wm_1_10 wm_4_123 pl_X9_setting (by decide))) ?_
  refine And.intro (EOK.l (okCeq dL_law_461 rfl (by rfl))) ?_
  refine And.intro (EOK.l (okIconst dL_law_464 rfl (by first | rfl | decide))) ?_
  refine And.intro (EOK.l (okZret dL_law_465 rfl)) ?_
  refine And.intro (EOK.l (okAload_n dL_law_466 rfl rfl)) ?_
  refine And.intro (EOK.l (okAload_n dL_law_467 rfl rfl)) ?_
  refine And.intro (EOK.l (okIload_n dL_law_468 rfl rfl)) ?_
  refine And.intro (EOK.l (okIconst dL_law_469 rfl (by first | rfl | decide))) ?_
  refine And.intro (EOK.l (okAdd dL_law_470 rfl)) ?_
  refine And.intro (okSld dL_law_471 rfl) ?_
  refine And.intro (EOK.l (okAload_n dL_law_472 rfl rfl)) ?_
  refine And.intro (EOK.l (okIload_n dL_law_473 rfl rfl)) ?_
  refine And.intro (EOK.l (okIconst dL_law_474 rfl (by first | rfl | decide))) ?_
  refine And.intro (EOK.l (okAdd dL_law_475 rfl)) ?_
  refine And.intro (okSld dL_law_476 rfl) ?_
  refine And.intro (EOK.l (okCallV (y := yX8_chest) (T := TX8) (oCallZ_is _ _ _) dL_law_477 rfl (pFOK_FC (ok_F_X8_chest l)) (rc_FC _) rfl wm_3_78 wm_3_79 wm_3_80 wm_1_1 wm_3_81 pl_X8_chest (by decide))) ?_
  refine And.intro (EOK.l (okAload_n dL_law_480 rfl rfl)) ?_
  refine And.intro (EOK.l (okAload_n dL_law_481 rfl rfl)) ?_
  refine And.intro (EOK.l (okIload_n dL_law_482 rfl rfl)) ?_
  refine And.intro (EOK.l (okIconst dL_law_483 rfl (by first | rfl | decide))) ?_
  refine And.intro (EOK.l (okAdd dL_law_484 rfl)) ?_
  refine And.intro (okSld dL_law_485 rfl) ?_
  refine And.intro (EOK.l (okAload_n dL_law_486 rfl rfl)) ?_
  refine And.intro (EOK.l (okIload_n dL_law_487 rfl rfl)) ?_
  refine And.intro (EOK.l (okIconst dL_law_488 rfl (by first | rfl | decide))) ?_
  refine And.intro (EOK.l (okAdd dL_law_489 rfl)) ?_
  refine And.intro (okSld dL_law_490 rfl) ?_
  refine And.intro (EOK.l (okCallV (y := yX9_chest) (T := TX9) (oCallZ_is _ _ _) dL_law_491 rfl (pFOK_FM (ok_F_X9_chest l)) (rc_FM _) rfl wm_4_124 wm_4_125 wm_4_126 wm_1_10 wm_4_127 pl_X9_chest (by decide))) ?_
  refine And.intro (EOK.l (okCeq dL_law_494 rfl (by rfl))) ?_
  refine And.intro (EOK.l (okIconst dL_law_497 rfl (by first | rfl | decide))) ?_
  refine And.intro (EOK.l (okZret dL_law_498 rfl)) ?_
  refine And.intro (EOK.l (okAload_n dL_law_499 rfl rfl)) ?_
  refine And.intro (EOK.l (okAload_n dL_law_500 rfl rfl)) ?_
  refine And.intro (EOK.l (okIload_n dL_law_501 rfl rfl)) ?_
  refine And.intro (EOK.l (okIconst dL_law_502 rfl (by first | rfl | decide))) ?_
  refine And.intro (EOK.l (okAdd dL_law_503 rfl)) ?_
  refine And.intro (okSld dL_law_504 rfl) ?_
  refine And.intro (EOK.l (okCallV (y := yX8_account) (T := TX8) (oCallZ_is _ _ _) dL_law_505 rfl (pFOK_FC (ok_F_X8_account l)) (rc_FC _) rfl wm_3_84 wm_3_85 wm_3_86 wm_1_1 wm_3_87 pl_X8_account (by decide))) ?_
  refine And.intro (EOK.l (okAload_n dL_law_508 rfl rfl)) ?_
  refine And.intro (EOK.l (okAload_n dL_law_509 rfl rfl)) ?_
  refine And.intro (EOK.l (okIload_n dL_law_510 rfl rfl)) ?_
  refine And.intro (EOK.l (okIconst dL_law_511 rfl (by first | rfl | decide))) ?_
  refine And.intro (EOK.l (okAdd dL_law_512 rfl)) ?_
  refine And.intro (okSld dL_law_513 rfl) ?_
  refine And.intro (EOK.l (okCallV (y := yX9_account) (T := TX9) (oCallZ_is _ _ _) dL_law_514 rfl (pFOK_FM (ok_F_X9_account l)) (rc_FM _) rfl wm_4_128 wm_4_129 wm_4_130 wm_1_10 wm_4_131 pl_X9_account (by decide))) ?_
  refine And.intro (EOK.l (okCeq dL_law_517 rfl (by rfl))) ?_
  refine And.intro (EOK.l (okIconst dL_law_520 rfl (by first | rfl | decide))) ?_
  refine And.intro (EOK.l (okZret dL_law_521 rfl)) ?_
  refine And.intro (EOK.l (okAload_n dL_law_522 rfl rfl)) ?_
  refine And.intro (EOK.l (okAload_n dL_law_523 rfl rfl)) ?_
  refine And.intro (EOK.l (okIload_n dL_law_524 rfl rfl)) ?_
  refine And.intro (EOK.l (okIconst dL_law_525 rfl (by first | rfl | decide))) ?_
  refine And.intro (EOK.l (okAdd dL_law_526 rfl)) ?_
  refine And.intro (okSld dL_law_527 rfl) ?_
  refine And.intro (EOK.l (okCallV (y := yX8_paper) (T := TX8) (oCallZ_is _ _ _) dL_law_528 rfl (pFOK_FC (ok_F_X8_paper l)) (rc_FC _) rfl wm_3_93 wm_3_94 wm_3_95 wm_1_1 wm_3_96 pl_X8_paper (by decide))) ?_
  refine And.intro (EOK.l (okAload_n dL_law_531 rfl rfl)) ?_
  refine And.intro (EOK.l (okAload_n dL_law_532 rfl rfl)) ?_
  refine And.intro (EOK.l (okIload_n dL_law_533 rfl rfl)) ?_
  refine And.intro (EOK.l (okIconst dL_law_534 rfl (by first | rfl | decide))) ?_
  refine And.intro (EOK.l (okAdd dL_law_535 rfl)) ?_
  refine And.intro (okSld dL_law_536 rfl) ?_
  refine And.intro (EOK.l (okCallV (y := yX9_paper) (T := TX9) (oCallZ_is _ _ _) dL_law_537 rfl (pFOK_FM (ok_F_X9_paper l)) (rc_FM _) rfl wm_4_136 wm_4_137 wm_4_138 wm_1_10 wm_4_139 pl_X9_paper (by decide))) ?_
  refine And.intro (EOK.l (okCeq dL_law_540 rfl (by rfl))) ?_
  refine And.intro (EOK.l (okIconst dL_law_543 rfl (by first | rfl | decide))) ?_
  refine And.intro (EOK.l (okZret dL_law_544 rfl)) ?_
  refine And.intro (EOK.l (okAload_n dL_law_545 rfl rfl)) ?_
  refine And.intro (EOK.l (okAload_n dL_law_546 rfl rfl)) ?_
  refine And.intro (EOK.l (okIload_n dL_law_547 rfl rfl)) ?_
  refine And.intro (EOK.l (okIconst dL_law_548 rfl (by first | rfl | decide))) ?_
  refine And.intro (EOK.l (okAdd dL_law_549 rfl)) ?_
  refine And.intro (okSld dL_law_550 rfl) ?_
  refine And.intro (EOK.l (okAload_n dL_law_551 rfl rfl)) ?_
  refine And.intro (EOK.l (okIload_n dL_law_552 rfl rfl)) ?_
  refine And.intro (EOK.l (okIconst dL_law_553 rfl (by first | rfl | decide))) ?_
  refine And.intro (EOK.l (okAdd dL_law_554 rfl)) ?_
  refine And.intro (okSld dL_law_555 rfl) ?_
  refine And.intro (EOK.l (okCallV (y := yX8_entry) (T := TX8) (oCallZ_is _ _ _) dL_law_556 rfl (pFOK_FC (ok_F_X8_entry l)) (rc_FC _) rfl wm_3_97 wm_3_98 wm_3_99 wm_1_1 wm_3_100 pl_X8_entry (by decide))) ?_
  refine And.intro (EOK.l (okAload_n dL_law_559 rfl rfl)) ?_
  refine And.intro (EOK.l (okAload_n dL_law_560 rfl rfl)) ?_
  refine And.intro (EOK.l (okIload_n dL_law_561 rfl rfl)) ?_
  refine And.intro (EOK.l (okIconst dL_law_562 rfl (by first | rfl | decide))) ?_
  refine And.intro (EOK.l (okAdd dL_law_563 rfl)) ?_
  refine And.intro (okSld dL_law_564 rfl) ?_
  refine And.intro (EOK.l (okAload_n dL_law_565 rfl rfl)) ?_
  refine And.intro (EOK.l (okIload_n dL_law_566 rfl rfl)) ?_
  refine And.intro (EOK.l (okIconst dL_law_567 rfl (by first | rfl | decide))) ?_
  refine And.intro (EOK.l (okAdd dL_law_568 rfl)) ?_
  refine And.intro (okSld dL_law_569 rfl) ?_
  refine And.intro (EOK.l (okCallV (y := yX9_entry) (T := TX9) (oCallZ_is _ _ _) dL_law_570 rfl (pFOK_FM (ok_F_X9_entry l)) (rc_FM _) rfl wm_4_140 wm_4_141 wm_4_142 wm_1_10 wm_4_143 pl_X9_entry (by decide))) ?_
  refine And.intro (EOK.l (okCeq dL_law_573 rfl (by rfl))) ?_
  refine And.intro (EOK.l (okIconst dL_law_576 rfl (by first | rfl | decide))) ?_
  refine And.intro (EOK.l (okZret dL_law_577 rfl)) ?_
  refine And.intro (EOK.l (okAload_n dL_law_578 rfl rfl)) ?_
  refine And.intro (EOK.l (okCallV (y := yX8_paperShare) (T := TX8) (oCallZ_is _ _ _) dL_law_579 rfl (pFOK_FC (ok_F_X8_paperShare l)) (rc_FC _) rfl wm_3_101 wm_3_102 wm_3_103 wm_1_1 wm_3_104 pl_X8_paperShare (by decide))) ?_
  refine And.intro (EOK.l (okF2d dL_law_582 rfl)) ?_
  refine And.intro (EOK.l (okDstore dL_law_583 rfl (by decide))) ?_
  refine And.intro (EOK.l (okAload_n dL_law_585 rfl rfl)) ?_
  refine And.intro (EOK.l (okCallV (y := yX9_paperShare) (T := TX9) (oCallZ_is _ _ _) dL_law_586 rfl (pFOK_FM (ok_F_X9_paperShare l)) (rc_FM _) rfl wm_4_144 wm_4_145 wm_4_146 wm_1_10 wm_4_147 pl_X9_paperShare (by decide))) ?_
  refine And.intro (EOK.l (okF2d dL_law_589 rfl)) ?_
  refine And.intro (EOK.l (okDstore dL_law_590 rfl (by decide))) ?_
  refine And.intro (EOK.l (okDload dL_law_592 rfl)) ?_
  refine And.intro (EOK.l (okDload dL_law_594 rfl)) ?_
  refine And.intro (EOK.l (okDcmpL dL_law_596 rfl)) ?_
  refine And.intro (EOK.l (okIfeq dL_law_597 rfl (by rfl))) ?_
  refine And.intro (EOK.l (okDload dL_law_600 rfl)) ?_
  refine And.intro (EOK.l (okDload dL_law_602 rfl)) ?_
  refine And.intro (EOK.l (okDcmpL dL_law_604 rfl)) ?_
  refine And.intro (EOK.l (okIfeq dL_law_605 rfl (by rfl))) ?_
  refine And.intro (EOK.l (okDload dL_law_608 rfl)) ?_
  refine And.intro (EOK.l (okDload dL_law_610 rfl)) ?_
  refine And.intro (EOK.l (okDcmpL dL_law_612 rfl)) ?_
  refine And.intro (EOK.l (okIfne dL_law_613 rfl (by rfl))) ?_
  refine And.intro (EOK.l (okIconst dL_law_616 rfl (by first | rfl | decide))) ?_
  refine And.intro (EOK.l (okZret dL_law_617 rfl)) ?_
  refine And.intro (EOK.l (okGoto dL_law_618 (by rfl))) ?_
  refine And.intro (EOK.l (okAload_n dL_law_621 rfl rfl)) ?_
  refine And.intro (EOK.l (okAload_n dL_law_622 rfl rfl)) ?_
  refine And.intro (EOK.l (okIload_n dL_law_623 rfl rfl)) ?_
  refine And.intro (EOK.l (okIconst dL_law_624 rfl (by first | rfl | decide))) ?_
  refine And.intro (EOK.l (okAdd dL_law_625 rfl)) ?_
  refine And.intro (okSld dL_law_626 rfl) ?_
  refine And.intro (EOK.l (okAload_n dL_law_627 rfl rfl)) ?_
  refine And.intro (EOK.l (okIload_n dL_law_628 rfl rfl)) ?_
  refine And.intro (EOK.l (okIconst dL_law_629 rfl (by first | rfl | decide))) ?_
  refine And.intro (EOK.l (okAdd dL_law_630 rfl)) ?_
  refine And.intro (okSld dL_law_631 rfl) ?_
  refine And.intro (EOK.l (okCallV (y := yX8_later) (T := TX8) (oCallZ_is _ _ _) dL_law_632 rfl (pFOK_FC (ok_F_X8_later l)) (rc_FC _) rfl wm_3_105 wm_3_106 wm_3_107 wm_1_1 wm_3_108 pl_X8_later (by decide))) ?_
  refine And.intro (EOK.l (okAload_n dL_law_635 rfl rfl)) ?_
  refine And.intro (EOK.l (okAload_n dL_law_636 rfl rfl)) ?_
  refine And.intro (EOK.l (okIload_n dL_law_637 rfl rfl)) ?_
  refine And.intro (EOK.l (okIconst dL_law_638 rfl (by first | rfl | decide))) ?_
  refine And.intro (EOK.l (okAdd dL_law_639 rfl)) ?_
  refine And.intro (okSld dL_law_640 rfl) ?_
  refine And.intro (EOK.l (okAload_n dL_law_641 rfl rfl)) ?_
  refine And.intro (EOK.l (okIload_n dL_law_642 rfl rfl)) ?_
  refine And.intro (EOK.l (okIconst dL_law_643 rfl (by first | rfl | decide))) ?_
  refine And.intro (EOK.l (okAdd dL_law_644 rfl)) ?_
  refine And.intro (okSld dL_law_645 rfl) ?_
  refine And.intro (EOK.l (okCallV (y := yX9_later) (T := TX9) (oCallZ_is _ _ _) dL_law_646 rfl (pFOK_FM (ok_F_X9_later l)) (rc_FM _) rfl wm_4_148 wm_4_149 wm_4_150 wm_1_10 wm_4_151 pl_X9_later (by decide))) ?_
  refine And.intro (EOK.l (okCeq dL_law_649 rfl (by rfl))) ?_
  refine And.intro (EOK.l (okIconst dL_law_652 rfl (by first | rfl | decide))) ?_
  refine And.intro (EOK.l (okZret dL_law_653 rfl)) ?_
  refine And.intro (EOK.l (okAload_n dL_law_654 rfl rfl)) ?_
  refine And.intro (EOK.l (okCallV (y := yX8_overflow) (T := TX8) (oCallZ_is _ _ _) dL_law_655 rfl (pFOK_FC (ok_F_X8_overflow l)) (rc_FC _) rfl wm_3_110 wm_3_111 wm_3_112 wm_1_1 wm_3_113 pl_X8_overflow (by decide))) ?_
  refine And.intro (EOK.l (okAload_n dL_law_658 rfl rfl)) ?_
  refine And.intro (EOK.l (okCallV (y := yX9_overflow) (T := TX9) (oCallZ_is _ _ _) dL_law_659 rfl (pFOK_FM (ok_F_X9_overflow l)) (rc_FM _) rfl wm_4_160 wm_4_161 wm_4_162 wm_1_10 wm_4_163 pl_X9_overflow (by decide))) ?_
  refine And.intro (EOK.l (okCeq dL_law_662 rfl (by rfl))) ?_
  refine And.intro (EOK.l (okIconst dL_law_665 rfl (by first | rfl | decide))) ?_
  refine And.intro (EOK.l (okZret dL_law_666 rfl)) ?_
  refine And.intro (EOK.l (okAload_n dL_law_667 rfl rfl)) ?_
  refine And.intro (EOK.l (okAload_n dL_law_668 rfl rfl)) ?_
  refine And.intro (EOK.l (okIload_n dL_law_669 rfl rfl)) ?_
  refine And.intro (EOK.l (okIconst dL_law_670 rfl (by first | rfl | decide))) ?_
  refine And.intro (EOK.l (okAdd dL_law_671 rfl)) ?_
  refine And.intro (okSld dL_law_672 rfl) ?_
  refine And.intro (EOK.l (okCallV (y := yX8_bestLimit) (T := TX8) (oCallZ_is _ _ _) dL_law_673 rfl (pFOK_FC (ok_F_X8_bestLimit l)) (rc_FC _) rfl wm_3_115 wm_3_116 wm_3_117 wm_1_1 wm_3_118 pl_X8_bestLimit (by decide))) ?_
  refine And.intro (EOK.l (okAload_n dL_law_676 rfl rfl)) ?_
  refine And.intro (EOK.l (okAload_n dL_law_677 rfl rfl)) ?_
  refine And.intro (EOK.l (okIload_n dL_law_678 rfl rfl)) ?_
  refine And.intro (EOK.l (okIconst dL_law_679 rfl (by first | rfl | decide))) ?_
  refine And.intro (EOK.l (okAdd dL_law_680 rfl)) ?_
  refine And.intro (okSld dL_law_681 rfl) ?_
  refine And.intro (EOK.l (okCallV (y := yX9_bestLimit) (T := TX9) (oCallZ_is _ _ _) dL_law_682 rfl (pFOK_FM (ok_F_X9_bestLimit l)) (rc_FM _) rfl wm_4_164 wm_4_165 wm_4_166 wm_1_10 wm_4_167 pl_X9_bestLimit (by decide))) ?_
  refine And.intro (EOK.l (okCeq dL_law_685 rfl (by rfl))) ?_
  refine And.intro (EOK.l (okIconst dL_law_688 rfl (by first | rfl | decide))) ?_
  refine And.intro (EOK.l (okZret dL_law_689 rfl)) ?_
  refine And.intro (EOK.l (okAload_n dL_law_690 rfl rfl)) ?_
  refine And.intro (EOK.l (okAload_n dL_law_691 rfl rfl)) ?_
  refine And.intro (EOK.l (okIload_n dL_law_692 rfl rfl)) ?_
  refine And.intro (EOK.l (okIconst dL_law_693 rfl (by first | rfl | decide))) ?_
  refine And.intro (EOK.l (okAdd dL_law_694 rfl)) ?_
  refine And.intro (okSld dL_law_695 rfl) ?_
  refine And.intro (EOK.l (okCallV (y := yX8_keep) (T := TX8) (oCallZ_is _ _ _) dL_law_696 rfl (pFOK_FC (ok_F_X8_keep l)) (rc_FC _) rfl wm_3_119 wm_3_120 wm_3_121 wm_1_1 wm_3_122 pl_X8_keep (by decide))) ?_
  refine And.intro (EOK.l (okAload_n dL_law_699 rfl rfl)) ?_
  refine And.intro (EOK.l (okAload_n dL_law_700 rfl rfl)) ?_
  refine And.intro (EOK.l (okIload_n dL_law_701 rfl rfl)) ?_
  refine And.intro (EOK.l (okIconst dL_law_702 rfl (by first | rfl | decide))) ?_
  refine And.intro (EOK.l (okAdd dL_law_703 rfl)) ?_
  refine And.intro (okSld dL_law_704 rfl) ?_
  refine And.intro (EOK.l (okCallV (y := yX9_keep) (T := TX9) (oCallZ_is _ _ _) dL_law_705 rfl (pFOK_FM (ok_F_X9_keep l)) (rc_FM _) rfl wm_4_168 wm_4_169 wm_4_170 wm_1_10 wm_4_171 pl_X9_keep (by decide))) ?_
  refine And.intro (EOK.l (okCeq dL_law_708 rfl (by rfl))) ?_
  refine And.intro (EOK.l (okIconst dL_law_711 rfl (by first | rfl | decide))) ?_
  refine And.intro (EOK.l (okZret dL_law_712 rfl)) ?_
  refine And.intro (EOK.l (okAload_n dL_law_713 rfl rfl)) ?_
  refine And.intro (EOK.l (okAload_n dL_law_714 rfl rfl)) ?_
  refine And.intro (EOK.l (okIload_n dL_law_715 rfl rfl)) ?_
  refine And.intro (EOK.l (okIconst dL_law_716 rfl (by first | rfl | decide))) ?_
  refine And.intro (EOK.l (okAdd dL_law_717 rfl)) ?_
  refine And.intro (okSld dL_law_718 rfl) ?_
  refine And.intro (EOK.l (okCallV (y := yX8_back) (T := TX8) (oCallZ_is _ _ _) dL_law_719 rfl (pFOK_FC (ok_F_X8_back l)) (rc_FC _) rfl wm_3_127 wm_3_128 wm_3_129 wm_1_1 wm_3_130 pl_X8_back (by decide))) ?_
  refine And.intro (EOK.l (okAload_n dL_law_722 rfl rfl)) ?_
  refine And.intro (EOK.l (okAload_n dL_law_723 rfl rfl)) ?_
  refine And.intro (EOK.l (okIload_n dL_law_724 rfl rfl)) ?_
  refine And.intro (EOK.l (okIconst dL_law_725 rfl (by first | rfl | decide))) ?_
  refine And.intro (EOK.l (okAdd dL_law_726 rfl)) ?_
  refine And.intro (okSld dL_law_727 rfl) ?_
  refine And.intro (EOK.l (okCallV (y := yX9_back) (T := TX9) (oCallZ_is _ _ _) dL_law_728 rfl (pFOK_FM (ok_F_X9_back l)) (rc_FM _) rfl wm_4_175 wm_4_176 wm_4_177 wm_1_10 wm_4_178 pl_X9_back (by decide))) ?_
  refine And.intro (EOK.l (okCeq dL_law_731 rfl (by rfl))) ?_
  refine And.intro (EOK.l (okIconst dL_law_734 rfl (by first | rfl | decide))) ?_
  refine And.intro (EOK.l (okZret dL_law_735 rfl)) ?_
  refine And.intro (EOK.l (okIinc dL_law_736 rfl (by first | rfl | decide) (by decide))) ?_
  refine And.intro (EOK.l (okGoto dL_law_739 (by rfl))) ?_
  refine And.intro (EOK.l (okIconst dL_law_742 rfl (by first | rfl | decide))) ?_
  refine And.intro (EOK.l (okZret dL_law_743 rfl)) ?_
  exact trivial
end
