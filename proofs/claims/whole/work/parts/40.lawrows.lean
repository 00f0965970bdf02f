theorem dL_0 : decode code 0 = .ok (.new 7, 3) := by decide +kernel
theorem dL_3 : decode code 3 = .ok (.dup, 1) := by decide +kernel
theorem dL_4 : decode code 4 = .ok (.aload_n 0, 1) := by decide +kernel
theorem dL_5 : decode code 5 = .ok (.iconst 0, 1) := by decide +kernel
theorem dL_6 : decode code 6 = .ok (.invokestatic 9, 3) := by decide +kernel
theorem dL_9 : decode code 9 = .ok (.invokespecial 15, 3) := by decide +kernel
theorem dL_12 : decode code 12 = .ok (.astore_n 1, 1) := by decide +kernel
theorem dL_13 : decode code 13 = .ok (.new 18, 3) := by decide +kernel
theorem dL_16 : decode code 16 = .ok (.dup, 1) := by decide +kernel
theorem dL_17 : decode code 17 = .ok (.aload_n 0, 1) := by decide +kernel
theorem dL_18 : decode code 18 = .ok (.iconst 0, 1) := by decide +kernel
theorem dL_19 : decode code 19 = .ok (.invokestatic 9, 3) := by decide +kernel
theorem dL_22 : decode code 22 = .ok (.invokespecial 20, 3) := by decide +kernel
theorem dL_25 : decode code 25 = .ok (.astore_n 2, 1) := by decide +kernel
theorem dL_26 : decode code 26 = .ok (.iconst 1, 1) := by decide +kernel
theorem dL_27 : decode code 27 = .ok (.istore_n 3, 1) := by decide +kernel
theorem dL_28 : decode code 28 = .ok (.iload_n 3, 1) := by decide +kernel
theorem dL_29 : decode code 29 = .ok (.aload_n 0, 1) := by decide +kernel
theorem dL_30 : decode code 30 = .ok (.arraylength, 1) := by decide +kernel
theorem dL_31 : decode code 31 = .ok (.iconst 4, 1) := by decide +kernel
theorem dL_32 : decode code 32 = .ok (.isub, 1) := by decide +kernel
theorem dL_33 : decode code 33 = .ok (.if_icmp .gt 562, 3) := by decide +kernel
theorem dL_36 : decode code 36 = .ok (.aload_n 0, 1) := by decide +kernel
theorem dL_37 : decode code 37 = .ok (.iload_n 3, 1) := by decide +kernel
theorem dL_38 : decode code 38 = .ok (.iaload, 1) := by decide +kernel
theorem dL_39 : decode code 39 = .ok (.bipush 31, 2) := by decide +kernel
theorem dL_41 : decode code 41 = .ok (.iand, 1) := by decide +kernel
theorem dL_42 : decode code 42 = .ok (.tableswitch 547 0 18 #[90, 113, 146, 179, 202, 215, 228, 241, 264, 287, 300, 323, 386, 409, 452, 475, 488, 511, 524], 90) := by decide +kernel
theorem dL_132 : decode code 132 = .ok (.aload_n 1, 1) := by decide +kernel
theorem dL_133 : decode code 133 = .ok (.aload_n 0, 1) := by decide +kernel
theorem dL_134 : decode code 134 = .ok (.iload_n 3, 1) := by decide +kernel
theorem dL_135 : decode code 135 = .ok (.iconst 1, 1) := by decide +kernel
theorem dL_136 : decode code 136 = .ok (.iadd, 1) := by decide +kernel
theorem dL_137 : decode code 137 = .ok (.iaload, 1) := by decide +kernel
theorem dL_138 : decode code 138 = .ok (.invokevirtual 21, 3) := by decide +kernel
theorem dL_141 : decode code 141 = .ok (.aload_n 2, 1) := by decide +kernel
theorem dL_142 : decode code 142 = .ok (.aload_n 0, 1) := by decide +kernel
theorem dL_143 : decode code 143 = .ok (.iload_n 3, 1) := by decide +kernel
theorem dL_144 : decode code 144 = .ok (.iconst 1, 1) := by decide +kernel
theorem dL_145 : decode code 145 = .ok (.iadd, 1) := by decide +kernel
theorem dL_146 : decode code 146 = .ok (.iaload, 1) := by decide +kernel
theorem dL_147 : decode code 147 = .ok (.invokevirtual 25, 3) := by decide +kernel
theorem dL_150 : decode code 150 = .ok (.if_icmp .eq 439, 3) := by decide +kernel
theorem dL_153 : decode code 153 = .ok (.iconst 0, 1) := by decide +kernel
theorem dL_154 : decode code 154 = .ok (.ireturn, 1) := by decide +kernel
theorem dL_155 : decode code 155 = .ok (.aload_n 1, 1) := by decide +kernel
theorem dL_156 : decode code 156 = .ok (.aload_n 0, 1) := by decide +kernel
theorem dL_157 : decode code 157 = .ok (.iload_n 3, 1) := by decide +kernel
theorem dL_158 : decode code 158 = .ok (.iconst 1, 1) := by decide +kernel
theorem dL_159 : decode code 159 = .ok (.iadd, 1) := by decide +kernel
theorem dL_160 : decode code 160 = .ok (.iaload, 1) := by decide +kernel
theorem dL_161 : decode code 161 = .ok (.aload_n 0, 1) := by decide +kernel
theorem dL_162 : decode code 162 = .ok (.iload_n 3, 1) := by decide +kernel
theorem dL_163 : decode code 163 = .ok (.iconst 2, 1) := by decide +kernel
theorem dL_164 : decode code 164 = .ok (.iadd, 1) := by decide +kernel
theorem dL_165 : decode code 165 = .ok (.iaload, 1) := by decide +kernel
theorem dL_166 : decode code 166 = .ok (.invokevirtual 26, 3) := by decide +kernel
theorem dL_169 : decode code 169 = .ok (.aload_n 2, 1) := by decide +kernel
theorem dL_170 : decode code 170 = .ok (.aload_n 0, 1) := by decide +kernel
theorem dL_171 : decode code 171 = .ok (.iload_n 3, 1) := by decide +kernel
theorem dL_172 : decode code 172 = .ok (.iconst 1, 1) := by decide +kernel
theorem dL_173 : decode code 173 = .ok (.iadd, 1) := by decide +kernel
theorem dL_174 : decode code 174 = .ok (.iaload, 1) := by decide +kernel
theorem dL_175 : decode code 175 = .ok (.aload_n 0, 1) := by decide +kernel
theorem dL_176 : decode code 176 = .ok (.iload_n 3, 1) := by decide +kernel
theorem dL_177 : decode code 177 = .ok (.iconst 2, 1) := by decide +kernel
theorem dL_178 : decode code 178 = .ok (.iadd, 1) := by decide +kernel
theorem dL_179 : decode code 179 = .ok (.iaload, 1) := by decide +kernel
theorem dL_180 : decode code 180 = .ok (.invokevirtual 30, 3) := by decide +kernel
theorem dL_183 : decode code 183 = .ok (.if_icmp .eq 406, 3) := by decide +kernel
theorem dL_186 : decode code 186 = .ok (.iconst 0, 1) := by decide +kernel
theorem dL_187 : decode code 187 = .ok (.ireturn, 1) := by decide +kernel
theorem dL_188 : decode code 188 = .ok (.aload_n 1, 1) := by decide +kernel
theorem dL_189 : decode code 189 = .ok (.aload_n 0, 1) := by decide +kernel
theorem dL_190 : decode code 190 = .ok (.iload_n 3, 1) := by decide +kernel
theorem dL_191 : decode code 191 = .ok (.iconst 1, 1) := by decide +kernel
theorem dL_192 : decode code 192 = .ok (.iadd, 1) := by decide +kernel
theorem dL_193 : decode code 193 = .ok (.iaload, 1) := by decide +kernel
theorem dL_194 : decode code 194 = .ok (.aload_n 0, 1) := by decide +kernel
theorem dL_195 : decode code 195 = .ok (.iload_n 3, 1) := by decide +kernel
theorem dL_196 : decode code 196 = .ok (.iconst 2, 1) := by decide +kernel
theorem dL_197 : decode code 197 = .ok (.iadd, 1) := by decide +kernel
theorem dL_198 : decode code 198 = .ok (.iaload, 1) := by decide +kernel
theorem dL_199 : decode code 199 = .ok (.invokevirtual 31, 3) := by decide +kernel
theorem dL_202 : decode code 202 = .ok (.aload_n 2, 1) := by decide +kernel
theorem dL_203 : decode code 203 = .ok (.aload_n 0, 1) := by decide +kernel
theorem dL_204 : decode code 204 = .ok (.iload_n 3, 1) := by decide +kernel
theorem dL_205 : decode code 205 = .ok (.iconst 1, 1) := by decide +kernel
theorem dL_206 : decode code 206 = .ok (.iadd, 1) := by decide +kernel
theorem dL_207 : decode code 207 = .ok (.iaload, 1) := by decide +kernel
theorem dL_208 : decode code 208 = .ok (.aload_n 0, 1) := by decide +kernel
theorem dL_209 : decode code 209 = .ok (.iload_n 3, 1) := by decide +kernel
theorem dL_210 : decode code 210 = .ok (.iconst 2, 1) := by decide +kernel
theorem dL_211 : decode code 211 = .ok (.iadd, 1) := by decide +kernel
theorem dL_212 : decode code 212 = .ok (.iaload, 1) := by decide +kernel
theorem dL_213 : decode code 213 = .ok (.invokevirtual 34, 3) := by decide +kernel
theorem dL_216 : decode code 216 = .ok (.if_icmp .eq 373, 3) := by decide +kernel
theorem dL_219 : decode code 219 = .ok (.iconst 0, 1) := by decide +kernel
theorem dL_220 : decode code 220 = .ok (.ireturn, 1) := by decide +kernel
theorem dL_221 : decode code 221 = .ok (.aload_n 1, 1) := by decide +kernel
theorem dL_222 : decode code 222 = .ok (.aload_n 0, 1) := by decide +kernel
theorem dL_223 : decode code 223 = .ok (.iload_n 3, 1) := by decide +kernel
theorem dL_224 : decode code 224 = .ok (.iconst 1, 1) := by decide +kernel
theorem dL_225 : decode code 225 = .ok (.iadd, 1) := by decide +kernel
theorem dL_226 : decode code 226 = .ok (.iaload, 1) := by decide +kernel
theorem dL_227 : decode code 227 = .ok (.invokevirtual 35, 3) := by decide +kernel
theorem dL_230 : decode code 230 = .ok (.aload_n 2, 1) := by decide +kernel
theorem dL_231 : decode code 231 = .ok (.aload_n 0, 1) := by decide +kernel
theorem dL_232 : decode code 232 = .ok (.iload_n 3, 1) := by decide +kernel
theorem dL_233 : decode code 233 = .ok (.iconst 1, 1) := by decide +kernel
theorem dL_234 : decode code 234 = .ok (.iadd, 1) := by decide +kernel
theorem dL_235 : decode code 235 = .ok (.iaload, 1) := by decide +kernel
theorem dL_236 : decode code 236 = .ok (.invokevirtual 39, 3) := by decide +kernel
theorem dL_239 : decode code 239 = .ok (.if_icmp .eq 350, 3) := by decide +kernel
theorem dL_242 : decode code 242 = .ok (.iconst 0, 1) := by decide +kernel
theorem dL_243 : decode code 243 = .ok (.ireturn, 1) := by decide +kernel
theorem dL_244 : decode code 244 = .ok (.aload_n 1, 1) := by decide +kernel
theorem dL_245 : decode code 245 = .ok (.invokevirtual 40, 3) := by decide +kernel
theorem dL_248 : decode code 248 = .ok (.aload_n 2, 1) := by decide +kernel
theorem dL_249 : decode code 249 = .ok (.invokevirtual 44, 3) := by decide +kernel
theorem dL_252 : decode code 252 = .ok (.if_icmp .eq 337, 3) := by decide +kernel
theorem dL_255 : decode code 255 = .ok (.iconst 0, 1) := by decide +kernel
theorem dL_256 : decode code 256 = .ok (.ireturn, 1) := by decide +kernel
theorem dL_257 : decode code 257 = .ok (.aload_n 1, 1) := by decide +kernel
theorem dL_258 : decode code 258 = .ok (.invokevirtual 45, 3) := by decide +kernel
theorem dL_261 : decode code 261 = .ok (.aload_n 2, 1) := by decide +kernel
theorem dL_262 : decode code 262 = .ok (.invokevirtual 48, 3) := by decide +kernel
theorem dL_265 : decode code 265 = .ok (.if_icmp .eq 324, 3) := by decide +kernel
theorem dL_268 : decode code 268 = .ok (.iconst 0, 1) := by decide +kernel
theorem dL_269 : decode code 269 = .ok (.ireturn, 1) := by decide +kernel
theorem dL_270 : decode code 270 = .ok (.aload_n 1, 1) := by decide +kernel
theorem dL_271 : decode code 271 = .ok (.invokevirtual 49, 3) := by decide +kernel
theorem dL_274 : decode code 274 = .ok (.aload_n 2, 1) := by decide +kernel
theorem dL_275 : decode code 275 = .ok (.invokevirtual 52, 3) := by decide +kernel
theorem dL_278 : decode code 278 = .ok (.if_icmp .eq 311, 3) := by decide +kernel
theorem dL_281 : decode code 281 = .ok (.iconst 0, 1) := by decide +kernel
theorem dL_282 : decode code 282 = .ok (.ireturn, 1) := by decide +kernel
theorem dL_283 : decode code 283 = .ok (.aload_n 1, 1) := by decide +kernel
theorem dL_284 : decode code 284 = .ok (.aload_n 0, 1) := by decide +kernel
theorem dL_285 : decode code 285 = .ok (.iload_n 3, 1) := by decide +kernel
theorem dL_286 : decode code 286 = .ok (.iconst 1, 1) := by decide +kernel
theorem dL_287 : decode code 287 = .ok (.iadd, 1) := by decide +kernel
theorem dL_288 : decode code 288 = .ok (.iaload, 1) := by decide +kernel
theorem dL_289 : decode code 289 = .ok (.invokevirtual 53, 3) := by decide +kernel
theorem dL_292 : decode code 292 = .ok (.aload_n 2, 1) := by decide +kernel
theorem dL_293 : decode code 293 = .ok (.aload_n 0, 1) := by decide +kernel
theorem dL_294 : decode code 294 = .ok (.iload_n 3, 1) := by decide +kernel
theorem dL_295 : decode code 295 = .ok (.iconst 1, 1) := by decide +kernel
theorem dL_296 : decode code 296 = .ok (.iadd, 1) := by decide +kernel
theorem dL_297 : decode code 297 = .ok (.iaload, 1) := by decide +kernel
theorem dL_298 : decode code 298 = .ok (.invokevirtual 56, 3) := by decide +kernel
theorem dL_301 : decode code 301 = .ok (.if_icmp .eq 288, 3) := by decide +kernel
theorem dL_304 : decode code 304 = .ok (.iconst 0, 1) := by decide +kernel
theorem dL_305 : decode code 305 = .ok (.ireturn, 1) := by decide +kernel
theorem dL_306 : decode code 306 = .ok (.aload_n 1, 1) := by decide +kernel
theorem dL_307 : decode code 307 = .ok (.aload_n 0, 1) := by decide +kernel
theorem dL_308 : decode code 308 = .ok (.iload_n 3, 1) := by decide +kernel
theorem dL_309 : decode code 309 = .ok (.iconst 1, 1) := by decide +kernel
theorem dL_310 : decode code 310 = .ok (.iadd, 1) := by decide +kernel
theorem dL_311 : decode code 311 = .ok (.iaload, 1) := by decide +kernel
theorem dL_312 : decode code 312 = .ok (.invokevirtual 57, 3) := by decide +kernel
theorem dL_315 : decode code 315 = .ok (.aload_n 2, 1) := by decide +kernel
theorem dL_316 : decode code 316 = .ok (.aload_n 0, 1) := by decide +kernel
theorem dL_317 : decode code 317 = .ok (.iload_n 3, 1) := by decide +kernel
theorem dL_318 : decode code 318 = .ok (.iconst 1, 1) := by decide +kernel
theorem dL_319 : decode code 319 = .ok (.iadd, 1) := by decide +kernel
theorem dL_320 : decode code 320 = .ok (.iaload, 1) := by decide +kernel
theorem dL_321 : decode code 321 = .ok (.invokevirtual 60, 3) := by decide +kernel
theorem dL_324 : decode code 324 = .ok (.if_icmp .eq 265, 3) := by decide +kernel
theorem dL_327 : decode code 327 = .ok (.iconst 0, 1) := by decide +kernel
theorem dL_328 : decode code 328 = .ok (.ireturn, 1) := by decide +kernel
theorem dL_329 : decode code 329 = .ok (.aload_n 1, 1) := by decide +kernel
theorem dL_330 : decode code 330 = .ok (.invokevirtual 61, 3) := by decide +kernel
theorem dL_333 : decode code 333 = .ok (.aload_n 2, 1) := by decide +kernel
theorem dL_334 : decode code 334 = .ok (.invokevirtual 64, 3) := by decide +kernel
theorem dL_337 : decode code 337 = .ok (.if_icmp .eq 252, 3) := by decide +kernel
theorem dL_340 : decode code 340 = .ok (.iconst 0, 1) := by decide +kernel
theorem dL_341 : decode code 341 = .ok (.ireturn, 1) := by decide +kernel
theorem dL_342 : decode code 342 = .ok (.aload_n 1, 1) := by decide +kernel
theorem dL_343 : decode code 343 = .ok (.aload_n 0, 1) := by decide +kernel
theorem dL_344 : decode code 344 = .ok (.iload_n 3, 1) := by decide +kernel
theorem dL_345 : decode code 345 = .ok (.iconst 1, 1) := by decide +kernel
theorem dL_346 : decode code 346 = .ok (.iadd, 1) := by decide +kernel
theorem dL_347 : decode code 347 = .ok (.iaload, 1) := by decide +kernel
theorem dL_348 : decode code 348 = .ok (.invokevirtual 65, 3) := by decide +kernel
theorem dL_351 : decode code 351 = .ok (.aload_n 2, 1) := by decide +kernel
theorem dL_352 : decode code 352 = .ok (.aload_n 0, 1) := by decide +kernel
theorem dL_353 : decode code 353 = .ok (.iload_n 3, 1) := by decide +kernel
theorem dL_354 : decode code 354 = .ok (.iconst 1, 1) := by decide +kernel
theorem dL_355 : decode code 355 = .ok (.iadd, 1) := by decide +kernel
theorem dL_356 : decode code 356 = .ok (.iaload, 1) := by decide +kernel
theorem dL_357 : decode code 357 = .ok (.invokevirtual 68, 3) := by decide +kernel
theorem dL_360 : decode code 360 = .ok (.if_icmp .eq 229, 3) := by decide +kernel
theorem dL_363 : decode code 363 = .ok (.iconst 0, 1) := by decide +kernel
theorem dL_364 : decode code 364 = .ok (.ireturn, 1) := by decide +kernel
theorem dL_365 : decode code 365 = .ok (.aload_n 1, 1) := by decide +kernel
theorem dL_366 : decode code 366 = .ok (.aload_n 0, 1) := by decide +kernel
theorem dL_367 : decode code 367 = .ok (.iload_n 3, 1) := by decide +kernel
theorem dL_368 : decode code 368 = .ok (.iconst 1, 1) := by decide +kernel
theorem dL_369 : decode code 369 = .ok (.iadd, 1) := by decide +kernel
theorem dL_370 : decode code 370 = .ok (.iaload, 1) := by decide +kernel
theorem dL_371 : decode code 371 = .ok (.aload_n 0, 1) := by decide +kernel
theorem dL_372 : decode code 372 = .ok (.iload_n 3, 1) := by decide +kernel
theorem dL_373 : decode code 373 = .ok (.iconst 2, 1) := by decide +kernel
theorem dL_374 : decode code 374 = .ok (.iadd, 1) := by decide +kernel
theorem dL_375 : decode code 375 = .ok (.iaload, 1) := by decide +kernel
theorem dL_376 : decode code 376 = .ok (.i2l, 1) := by decide +kernel
theorem dL_377 : decode code 377 = .ok (.bipush 32, 2) := by decide +kernel
theorem dL_379 : decode code 379 = .ok (.lshl, 1) := by decide +kernel
theorem dL_380 : decode code 380 = .ok (.aload_n 0, 1) := by decide +kernel
theorem dL_381 : decode code 381 = .ok (.iload_n 3, 1) := by decide +kernel
theorem dL_382 : decode code 382 = .ok (.iconst 3, 1) := by decide +kernel
theorem dL_383 : decode code 383 = .ok (.iadd, 1) := by decide +kernel
theorem dL_384 : decode code 384 = .ok (.iaload, 1) := by decide +kernel
theorem dL_385 : decode code 385 = .ok (.i2l, 1) := by decide +kernel
theorem dL_386 : decode code 386 = .ok (.ldc2_w 69, 3) := by decide +kernel
theorem dL_389 : decode code 389 = .ok (.land, 1) := by decide +kernel
theorem dL_390 : decode code 390 = .ok (.lor, 1) := by decide +kernel
theorem dL_391 : decode code 391 = .ok (.invokevirtual 71, 3) := by decide +kernel
theorem dL_394 : decode code 394 = .ok (.aload_n 2, 1) := by decide +kernel
theorem dL_395 : decode code 395 = .ok (.aload_n 0, 1) := by decide +kernel
theorem dL_396 : decode code 396 = .ok (.iload_n 3, 1) := by decide +kernel
theorem dL_397 : decode code 397 = .ok (.iconst 1, 1) := by decide +kernel
theorem dL_398 : decode code 398 = .ok (.iadd, 1) := by decide +kernel
theorem dL_399 : decode code 399 = .ok (.iaload, 1) := by decide +kernel
theorem dL_400 : decode code 400 = .ok (.aload_n 0, 1) := by decide +kernel
theorem dL_401 : decode code 401 = .ok (.iload_n 3, 1) := by decide +kernel
theorem dL_402 : decode code 402 = .ok (.iconst 2, 1) := by decide +kernel
theorem dL_403 : decode code 403 = .ok (.iadd, 1) := by decide +kernel
theorem dL_404 : decode code 404 = .ok (.iaload, 1) := by decide +kernel
theorem dL_405 : decode code 405 = .ok (.i2l, 1) := by decide +kernel
theorem dL_406 : decode code 406 = .ok (.bipush 32, 2) := by decide +kernel
theorem dL_408 : decode code 408 = .ok (.lshl, 1) := by decide +kernel
theorem dL_409 : decode code 409 = .ok (.aload_n 0, 1) := by decide +kernel
theorem dL_410 : decode code 410 = .ok (.iload_n 3, 1) := by decide +kernel
theorem dL_411 : decode code 411 = .ok (.iconst 3, 1) := by decide +kernel
theorem dL_412 : decode code 412 = .ok (.iadd, 1) := by decide +kernel
theorem dL_413 : decode code 413 = .ok (.iaload, 1) := by decide +kernel
theorem dL_414 : decode code 414 = .ok (.i2l, 1) := by decide +kernel
theorem dL_415 : decode code 415 = .ok (.ldc2_w 69, 3) := by decide +kernel
theorem dL_418 : decode code 418 = .ok (.land, 1) := by decide +kernel
theorem dL_419 : decode code 419 = .ok (.lor, 1) := by decide +kernel
theorem dL_420 : decode code 420 = .ok (.invokevirtual 75, 3) := by decide +kernel
theorem dL_423 : decode code 423 = .ok (.if_icmp .eq 166, 3) := by decide +kernel
theorem dL_426 : decode code 426 = .ok (.iconst 0, 1) := by decide +kernel
theorem dL_427 : decode code 427 = .ok (.ireturn, 1) := by decide +kernel
theorem dL_428 : decode code 428 = .ok (.aload_n 1, 1) := by decide +kernel
theorem dL_429 : decode code 429 = .ok (.aload_n 0, 1) := by decide +kernel
theorem dL_430 : decode code 430 = .ok (.iload_n 3, 1) := by decide +kernel
theorem dL_431 : decode code 431 = .ok (.iconst 1, 1) := by decide +kernel
theorem dL_432 : decode code 432 = .ok (.iadd, 1) := by decide +kernel
theorem dL_433 : decode code 433 = .ok (.iaload, 1) := by decide +kernel
theorem dL_434 : decode code 434 = .ok (.invokevirtual 76, 3) := by decide +kernel
theorem dL_437 : decode code 437 = .ok (.aload_n 2, 1) := by decide +kernel
theorem dL_438 : decode code 438 = .ok (.aload_n 0, 1) := by decide +kernel
theorem dL_439 : decode code 439 = .ok (.iload_n 3, 1) := by decide +kernel
theorem dL_440 : decode code 440 = .ok (.iconst 1, 1) := by decide +kernel
theorem dL_441 : decode code 441 = .ok (.iadd, 1) := by decide +kernel
theorem dL_442 : decode code 442 = .ok (.iaload, 1) := by decide +kernel
theorem dL_443 : decode code 443 = .ok (.invokevirtual 79, 3) := by decide +kernel
theorem dL_446 : decode code 446 = .ok (.if_icmp .eq 143, 3) := by decide +kernel
theorem dL_449 : decode code 449 = .ok (.iconst 0, 1) := by decide +kernel
theorem dL_450 : decode code 450 = .ok (.ireturn, 1) := by decide +kernel
theorem dL_451 : decode code 451 = .ok (.aload_n 1, 1) := by decide +kernel
theorem dL_452 : decode code 452 = .ok (.aload_n 0, 1) := by decide +kernel
theorem dL_453 : decode code 453 = .ok (.iload_n 3, 1) := by decide +kernel
theorem dL_454 : decode code 454 = .ok (.iconst 1, 1) := by decide +kernel
theorem dL_455 : decode code 455 = .ok (.iadd, 1) := by decide +kernel
theorem dL_456 : decode code 456 = .ok (.iaload, 1) := by decide +kernel
theorem dL_457 : decode code 457 = .ok (.aload_n 0, 1) := by decide +kernel
theorem dL_458 : decode code 458 = .ok (.iload_n 3, 1) := by decide +kernel
theorem dL_459 : decode code 459 = .ok (.iconst 2, 1) := by decide +kernel
theorem dL_460 : decode code 460 = .ok (.iadd, 1) := by decide +kernel
theorem dL_461 : decode code 461 = .ok (.iaload, 1) := by decide +kernel
theorem dL_462 : decode code 462 = .ok (.aload_n 0, 1) := by decide +kernel
theorem dL_463 : decode code 463 = .ok (.iload_n 3, 1) := by decide +kernel
theorem dL_464 : decode code 464 = .ok (.iconst 3, 1) := by decide +kernel
theorem dL_465 : decode code 465 = .ok (.iadd, 1) := by decide +kernel
theorem dL_466 : decode code 466 = .ok (.iaload, 1) := by decide +kernel
theorem dL_467 : decode code 467 = .ok (.invokevirtual 80, 3) := by decide +kernel
theorem dL_470 : decode code 470 = .ok (.aload_n 2, 1) := by decide +kernel
theorem dL_471 : decode code 471 = .ok (.aload_n 0, 1) := by decide +kernel
theorem dL_472 : decode code 472 = .ok (.iload_n 3, 1) := by decide +kernel
theorem dL_473 : decode code 473 = .ok (.iconst 1, 1) := by decide +kernel
theorem dL_474 : decode code 474 = .ok (.iadd, 1) := by decide +kernel
theorem dL_475 : decode code 475 = .ok (.iaload, 1) := by decide +kernel
theorem dL_476 : decode code 476 = .ok (.aload_n 0, 1) := by decide +kernel
theorem dL_477 : decode code 477 = .ok (.iload_n 3, 1) := by decide +kernel
theorem dL_478 : decode code 478 = .ok (.iconst 2, 1) := by decide +kernel
theorem dL_479 : decode code 479 = .ok (.iadd, 1) := by decide +kernel
theorem dL_480 : decode code 480 = .ok (.iaload, 1) := by decide +kernel
theorem dL_481 : decode code 481 = .ok (.aload_n 0, 1) := by decide +kernel
theorem dL_482 : decode code 482 = .ok (.iload_n 3, 1) := by decide +kernel
theorem dL_483 : decode code 483 = .ok (.iconst 3, 1) := by decide +kernel
theorem dL_484 : decode code 484 = .ok (.iadd, 1) := by decide +kernel
theorem dL_485 : decode code 485 = .ok (.iaload, 1) := by decide +kernel
theorem dL_486 : decode code 486 = .ok (.invokevirtual 84, 3) := by decide +kernel
theorem dL_489 : decode code 489 = .ok (.if_icmp .eq 100, 3) := by decide +kernel
theorem dL_492 : decode code 492 = .ok (.iconst 0, 1) := by decide +kernel
theorem dL_493 : decode code 493 = .ok (.ireturn, 1) := by decide +kernel
theorem dL_494 : decode code 494 = .ok (.aload_n 1, 1) := by decide +kernel
theorem dL_495 : decode code 495 = .ok (.aload_n 0, 1) := by decide +kernel
theorem dL_496 : decode code 496 = .ok (.iload_n 3, 1) := by decide +kernel
theorem dL_497 : decode code 497 = .ok (.iconst 1, 1) := by decide +kernel
theorem dL_498 : decode code 498 = .ok (.iadd, 1) := by decide +kernel
theorem dL_499 : decode code 499 = .ok (.iaload, 1) := by decide +kernel
theorem dL_500 : decode code 500 = .ok (.invokevirtual 85, 3) := by decide +kernel
theorem dL_503 : decode code 503 = .ok (.aload_n 2, 1) := by decide +kernel
theorem dL_504 : decode code 504 = .ok (.aload_n 0, 1) := by decide +kernel
theorem dL_505 : decode code 505 = .ok (.iload_n 3, 1) := by decide +kernel
theorem dL_506 : decode code 506 = .ok (.iconst 1, 1) := by decide +kernel
theorem dL_507 : decode code 507 = .ok (.iadd, 1) := by decide +kernel
theorem dL_508 : decode code 508 = .ok (.iaload, 1) := by decide +kernel
theorem dL_509 : decode code 509 = .ok (.invokevirtual 88, 3) := by decide +kernel
theorem dL_512 : decode code 512 = .ok (.if_icmp .eq 77, 3) := by decide +kernel
theorem dL_515 : decode code 515 = .ok (.iconst 0, 1) := by decide +kernel
theorem dL_516 : decode code 516 = .ok (.ireturn, 1) := by decide +kernel
theorem dL_517 : decode code 517 = .ok (.aload_n 1, 1) := by decide +kernel
theorem dL_518 : decode code 518 = .ok (.invokevirtual 89, 3) := by decide +kernel
theorem dL_521 : decode code 521 = .ok (.aload_n 2, 1) := by decide +kernel
theorem dL_522 : decode code 522 = .ok (.invokevirtual 92, 3) := by decide +kernel
theorem dL_525 : decode code 525 = .ok (.if_icmp .eq 64, 3) := by decide +kernel
theorem dL_528 : decode code 528 = .ok (.iconst 0, 1) := by decide +kernel
theorem dL_529 : decode code 529 = .ok (.ireturn, 1) := by decide +kernel
theorem dL_530 : decode code 530 = .ok (.aload_n 1, 1) := by decide +kernel
theorem dL_531 : decode code 531 = .ok (.aload_n 0, 1) := by decide +kernel
theorem dL_532 : decode code 532 = .ok (.iload_n 3, 1) := by decide +kernel
theorem dL_533 : decode code 533 = .ok (.iconst 1, 1) := by decide +kernel
theorem dL_534 : decode code 534 = .ok (.iadd, 1) := by decide +kernel
theorem dL_535 : decode code 535 = .ok (.iaload, 1) := by decide +kernel
theorem dL_536 : decode code 536 = .ok (.invokevirtual 93, 3) := by decide +kernel
theorem dL_539 : decode code 539 = .ok (.aload_n 2, 1) := by decide +kernel
theorem dL_540 : decode code 540 = .ok (.aload_n 0, 1) := by decide +kernel
theorem dL_541 : decode code 541 = .ok (.iload_n 3, 1) := by decide +kernel
theorem dL_542 : decode code 542 = .ok (.iconst 1, 1) := by decide +kernel
theorem dL_543 : decode code 543 = .ok (.iadd, 1) := by decide +kernel
theorem dL_544 : decode code 544 = .ok (.iaload, 1) := by decide +kernel
theorem dL_545 : decode code 545 = .ok (.invokevirtual 96, 3) := by decide +kernel
theorem dL_548 : decode code 548 = .ok (.if_icmp .eq 41, 3) := by decide +kernel
theorem dL_551 : decode code 551 = .ok (.iconst 0, 1) := by decide +kernel
theorem dL_552 : decode code 552 = .ok (.ireturn, 1) := by decide +kernel
theorem dL_553 : decode code 553 = .ok (.aload_n 1, 1) := by decide +kernel
theorem dL_554 : decode code 554 = .ok (.invokevirtual 97, 3) := by decide +kernel
theorem dL_557 : decode code 557 = .ok (.aload_n 2, 1) := by decide +kernel
theorem dL_558 : decode code 558 = .ok (.invokevirtual 100, 3) := by decide +kernel
theorem dL_561 : decode code 561 = .ok (.if_icmp .eq 28, 3) := by decide +kernel
theorem dL_564 : decode code 564 = .ok (.iconst 0, 1) := by decide +kernel
theorem dL_565 : decode code 565 = .ok (.ireturn, 1) := by decide +kernel
theorem dL_566 : decode code 566 = .ok (.aload_n 1, 1) := by decide +kernel
theorem dL_567 : decode code 567 = .ok (.aload_n 0, 1) := by decide +kernel
theorem dL_568 : decode code 568 = .ok (.iload_n 3, 1) := by decide +kernel
theorem dL_569 : decode code 569 = .ok (.iconst 1, 1) := by decide +kernel
theorem dL_570 : decode code 570 = .ok (.iadd, 1) := by decide +kernel
theorem dL_571 : decode code 571 = .ok (.iaload, 1) := by decide +kernel
theorem dL_572 : decode code 572 = .ok (.invokevirtual 101, 3) := by decide +kernel
theorem dL_575 : decode code 575 = .ok (.aload_n 2, 1) := by decide +kernel
theorem dL_576 : decode code 576 = .ok (.aload_n 0, 1) := by decide +kernel
theorem dL_577 : decode code 577 = .ok (.iload_n 3, 1) := by decide +kernel
theorem dL_578 : decode code 578 = .ok (.iconst 1, 1) := by decide +kernel
theorem dL_579 : decode code 579 = .ok (.iadd, 1) := by decide +kernel
theorem dL_580 : decode code 580 = .ok (.iaload, 1) := by decide +kernel
theorem dL_581 : decode code 581 = .ok (.invokevirtual 104, 3) := by decide +kernel
theorem dL_584 : decode code 584 = .ok (.if_icmp .eq 5, 3) := by decide +kernel
theorem dL_587 : decode code 587 = .ok (.iconst 0, 1) := by decide +kernel
theorem dL_588 : decode code 588 = .ok (.ireturn, 1) := by decide +kernel
theorem dL_589 : decode code 589 = .ok (.iinc 3 4, 3) := by decide +kernel
theorem dL_592 : decode code 592 = .ok (.goto (-564), 3) := by decide +kernel
theorem dL_595 : decode code 595 = .ok (.iconst 1, 1) := by decide +kernel
theorem dL_596 : decode code 596 = .ok (.ireturn, 1) := by decide +kernel
set_option maxHeartbeats 400000 in
set_option maxRecDepth 100000 in
theorem c_LW_cell (l : Launch) (b L : Nat) (xs : Nat → Int32) (hL : L ≤ 2049) : Met l yLW_cell wsLW_cell ({ frames := 0, cells := 0, slots := 0, locals := 0 }) (va_Pc [.ref b, .int (nI 0)] (fun U => va_X b L xs U U.heap)) (vp_Si (fun r => r = if 0 < L then xs 0 else 0)) 0 0 (fun _ => False) := by
  refine Met.ofW (cc := cLW_cell) (maxL := 2) (ret := (some .int)) (by decide) rfl ?_
  intro p e s m args below meth c s₁ B hml hv
  obtain ⟨rfl, hX⟩ := hv
  have hx := B.exec
  have hb := B.bytes
  have hr := B.returns
  have hbl : b < s.heap.size := by
    obtain ⟨scr, h1, _⟩ := hX
    exact (Array.getElem?_eq_some_iff.mp h1).1
  have hS : va_S (fun _ => False) s.heap s.heap [] := va_S.rf
  have hl := lv_entry ([.ref b, .int (nI 0)]) (n := 2) (Nat.le_of_ble_eq_true rfl)
  rw [lg_entry_eq]
  generalize (lg_sl ([.ref b, .int (nI 0)]) ++ List.replicate (2 - (lg_sl ([.ref b, .int (nI 0)])).length) Slot.unset).toArray = ls at hl ⊢
  have hl : lv_has ls 2 [(0, .ref b), (1, .int (nI 0))] := hl
  generalize hQe : MQ below _ _ s _ _ _ = Q
  refine lv_iload_n hx hb dLW_cell_0 rfl (lv_at hl 1 rfl) ?_
  refine lv_aload_n hx hb dLW_cell_1 rfl (lv_at hl 0 rfl) ?_
  refine va_slen hx hb hX hbl (A := fun _ => False) (fun z => z) hS dLW_cell_2 ?_
  refine hr_icmp_ge hx hb (x := 0) (y := L) (by omega) (by omega) (tgt := 12) dLW_cell_3 (by decide) (fun c9 => ?_) (fun c9 => ?_)
  · refine lv_iconst (v := nI 0) hx hb dLW_cell_12 (by decide +kernel) ?_
    rw [← hQe]
    exact W.iret (v := nI 0) hx hb hr (fun t ht hW => ⟨_, rfl, by rw [if_neg (by omega)]; rfl, by rw [ht]⟩) (fun q h => by cases h) dLW_cell_13
  · refine lv_aload_n hx hb dLW_cell_6 rfl (lv_at hl 0 rfl) ?_
    refine lv_iload_n hx hb dLW_cell_7 rfl (lv_at hl 1 rfl) ?_
    refine va_sld hx hb hX hbl (A := fun _ => False) (fun z => z) hS (vp_in_nI (show 0 < L by omega) (by omega)) dLW_cell_8 ?_
    refine lv_goto (tgt := 13) hx hb dLW_cell_9 (by decide) ?_
    rw [← hQe]
    exact W.iret (v := xs (nI 0).toNatClampNeg) hx hb hr (fun t ht hW => ⟨_, rfl, by rw [if_pos (by omega)]; rfl, by rw [ht]⟩) (fun q h => by cases h) dLW_cell_13

section LW9
variable {p : Program} {l : Launch} {e : Env} {R : Room} {s : State} {m : MethodId} {args : Array Value} {below : List Frame} {meth : Method} {c : Code} {H : Heap} {locs : List Loc} {cells slots : Nat} {Q : State → Prop}
variable {cc : ByteArray} {pc : Nat} {ls : Array Slot} {rest : List Value} {D : va_G} {cl : List vw_C} {A : Nat → Prop} {w1 w2 : va_W} {H0 : Heap} {mc ms : Nat} {st0 : List Value} {av : Array Value}
theorem call1 {S : Type} {post : Int32 → S → Prop} {B : S → va_W} (hr : va_Run p l e R s m args below meth c H locs cells slots mc ms (F0 m pc ls st0) rest (va_Qi post (fun u t => va_P D cl (B u) t.heap ∧ va_D (va_A w1 H.size) (B u)) (va_A w1 H.size) av) (va_A w1 H.size)) (hP : va_P D cl (w1 ++ w2) H) (hD : va_D A (w1 ++ w2)) (hS : va_S A H0 H locs) (hA : ∀ q, H0.size ≤ q → A q)
    (kk : ∀ (r : Int32) (u : S) (H : Heap) (locs : List Loc), post r u → va_P D cl (B u ++ w2) H → va_D A (B u ++ w2) → va_S A H0 H locs → W p l e R s m args below meth c H locs (cells + mc) (slots + ms) Q (F0 m (pc + 3) ls (.int r :: rest))) : W p l e R s m args below meth c H locs cells slots Q (F0 m pc ls st0) := by
  have hF : ∀ q, va_A w1 H.size q → A q := fun q h => by
    rcases h with ⟨k, e, h⟩ | h
    · exact (vdl hD).2 k (q, e) h
    · exact hA q (Nat.le_trans hS.1 h)
  refine va_calli hr hS (fun q _ h => hF q h) hF (fun r u t H1 locs1 ht hvm hp hB hz hk hS1 => ?_)
  obtain ⟨hP1, hD1⟩ := hB
  rw [ht] at hP1
  obtain ⟨a1, a2⟩ := join1 hP hD hk hF hP1 hD1
  exact kk r u H1 locs1 hp a1 a2 hS1
theorem call2 {S : Type} {post : Int32 → S → Prop} {B : S → va_W} (hr : va_Run p l e R s m args below meth c H locs cells slots mc ms (F0 m pc ls st0) rest (va_Qi post (fun u t => va_P D cl (B u) t.heap ∧ va_D (va_A w2 H.size) (B u)) (va_A w2 H.size) av) (va_A w2 H.size)) (hP : va_P D cl (w1 ++ w2) H) (hD : va_D A (w1 ++ w2)) (hS : va_S A H0 H locs) (hA : ∀ q, H0.size ≤ q → A q)
    (kk : ∀ (r : Int32) (u : S) (H : Heap) (locs : List Loc), post r u → va_P D cl (w1 ++ B u) H → va_D A (w1 ++ B u) → va_S A H0 H locs → W p l e R s m args below meth c H locs (cells + mc) (slots + ms) Q (F0 m (pc + 3) ls (.int r :: rest))) : W p l e R s m args below meth c H locs cells slots Q (F0 m pc ls st0) := by
  have hF : ∀ q, va_A w2 H.size q → A q := fun q h => by
    rcases h with ⟨k, e, h⟩ | h
    · exact (vdr hD).2 k (q, e) h
    · exact hA q (Nat.le_trans hS.1 h)
  refine va_calli hr hS (fun q _ h => hF q h) hF (fun r u t H1 locs1 ht hvm hp hB hz hk hS1 => ?_)
  obtain ⟨hP1, hD1⟩ := hB
  rw [ht] at hP1
  obtain ⟨a1, a2⟩ := join2 hP hD hk hF hP1 hD1
  exact kk r u H1 locs1 hp a1 a2 hS1
theorem call2v {S : Type} {post : S → Prop} {B : S → va_W} (hr : va_Run p l e R s m args below meth c H locs cells slots mc ms (F0 m pc ls st0) rest (va_Qv post (fun u t => va_P D cl (B u) t.heap ∧ va_D (va_A w2 H.size) (B u)) (va_A w2 H.size) av) (va_A w2 H.size)) (hP : va_P D cl (w1 ++ w2) H) (hD : va_D A (w1 ++ w2)) (hS : va_S A H0 H locs) (hA : ∀ q, H0.size ≤ q → A q)
    (kk : ∀ (u : S) (H : Heap) (locs : List Loc), post u → va_P D cl (w1 ++ B u) H → va_D A (w1 ++ B u) → va_S A H0 H locs → W p l e R s m args below meth c H locs (cells + mc) (slots + ms) Q (F0 m (pc + 3) ls rest)) : W p l e R s m args below meth c H locs cells slots Q (F0 m pc ls st0) := by
  have hF : ∀ q, va_A w2 H.size q → A q := fun q h => by
    rcases h with ⟨k, e, h⟩ | h
    · exact (vdr hD).2 k (q, e) h
    · exact hA q (Nat.le_trans hS.1 h)
  refine va_callv hr hS (fun q _ h => hF q h) hF (fun u t H1 locs1 ht hvm hp hB hz hk hS1 => ?_)
  obtain ⟨hP1, hD1⟩ := hB
  rw [ht] at hP1
  obtain ⟨a1, a2⟩ := join2 hP hD hk hF hP1 hD1
  exact kk u H1 locs1 hp a1 a2 hS1
theorem lw_sld (hexec : p.tables.exec = Jvm.exec) (hb : c.code = cc) {b L : Nat} {xs : Nat → Int32} (hX : va_X b L xs s H0) (hbl : b < H0.size) (hbA : ¬ A b) (hS : va_S A H0 H locs) {i : Nat} (hi : i < L) (hL : L ≤ 2049) (hdg : decode cc pc = .ok (.iaload, 1)) (kk : W p l e R s m args below meth c H locs cells slots Q (F0 m (pc + 1) ls (.int (xs i) :: rest))) : W p l e R s m args below meth c H locs cells slots Q (F0 m pc ls (.int (nI i) :: .ref b :: rest)) := va_sld hexec hb hX hbl hbA hS (vp_in_nI hi (by omega)) hdg (by rw [nI_clamp (by omega)]; exact kk)
variable {dC : Nat → ClassId} {dI : Nat → Nat → Nat} {cI cZ cG : ClassId} {fs : List Value} {hC hM : Nat} {As : List Value}
theorem pre1R (hK : KX dC dI cI cZ cG s) (hP : va_P (dC, dI) vwCl (w1 ++ w2) H) (he : w1[0]? = some (hC, .inr (7, fs))) : PreV s H RSR hC (va_Pc (.ref hC :: As) (fun U => va_P (dC, dI) vwCl w1 U.heap ∧ KX dC dI cI cZ cG U)) As := ⟨hr_blR, va_recv hK.1 (vpl hP) (ci := 7) (q0 := 0) (q := (RSR, TSR, 8)) rfl he, fun U hU hW => ⟨rfl, by rw [hU]; exact vpl hP, hK.warm hW⟩⟩
theorem pre1W (hK : KX dC dI cI cZ cG s) (hP : va_P (dC, dI) vwCl (w1 ++ w2) H) (hD : va_D A (w1 ++ w2)) (he : w1[0]? = some (hC, .inr (7, fs))) : PreV s H RSR hC (va_Pc (.ref hC :: As) (fun U => U.heap.size = H.size ∧ va_P (dC, dI) vwCl w1 U.heap ∧ KX dC dI cI cZ cG U ∧ va_D (fun _ => True) w1)) As := ⟨hr_blW, va_recv hK.1 (vpl hP) (ci := 7) (q0 := 0) (q := (RSR, TSR, 8)) rfl he, fun U hU hW => ⟨rfl, by rw [hU], by rw [hU]; exact vpl hP, hK.warm hW, (vdl hD).weaken (fun _ _ _ _ => trivial)⟩⟩
theorem pre2W (hK : KX dC dI cI cZ cG s) (hP : va_P (dC, dI) vwCl (w1 ++ w2) H) (hD : va_D A (w1 ++ w2)) (he : w2[0]? = some (hM, .inr (8, fs))) : PreV s H RMO hM (va_Pc (.ref hM :: As) (fun U => U.heap.size = H.size ∧ va_P (dC, dI) vwCl w2 U.heap ∧ KX dC dI cI cZ cG U ∧ va_D (fun _ => True) w2)) As := ⟨hr_blW, va_recv hK.1 (vpr hP) (ci := 8) (q0 := 0) (q := (RMO, TMO, 24)) rfl he, fun U hU hW => ⟨rfl, by rw [hU], by rw [hU]; exact vpr hP, hK.warm hW, (vdr hD).weaken (fun _ _ _ _ => trivial)⟩⟩
theorem pre2S (hK : KX dC dI cI cZ cG s) (hP : va_P (dC, dI) vwCl (w1 ++ w2) H) (hD : va_D A (w1 ++ w2)) : PreS s H (va_Pc As (fun U => U.heap.size = H.size ∧ va_P (dC, dI) vwCl w2 U.heap ∧ KX dC dI cI cZ cG U ∧ va_D (fun _ => True) w2)) As := ⟨hr_blW, fun U hU hW => ⟨rfl, by rw [hU], by rw [hU]; exact vpr hP, hK.warm hW, (vdr hD).weaken (fun _ _ _ _ => trivial)⟩⟩
theorem pre2Z (hK : KZ dC dI cI cZ cG s) (hP : va_P (dC, dI) vwCl (w1 ++ w2) H) (hD : va_D A (w1 ++ w2)) : PreS s H (va_Pc As (fun U => U.heap.size = H.size ∧ va_P (dC, dI) vwCl w2 U.heap ∧ KZ dC dI cI cZ cG U ∧ va_D (fun _ => True) w2)) As := ⟨fun a U g mk q => ⟨q.1, q.2.1, q.2.2.1, q.2.2.2.1.call, q.2.2.2.2⟩, fun U hU hW => ⟨rfl, by rw [hU], by rw [hU]; exact vpr hP, hK.warm hW, (vdr hD).weaken (fun _ _ _ _ => trivial)⟩⟩
theorem preX {b L : Nat} {xs : Nat → Int32} (hX : va_X b L xs s H0) (hbl : b < H0.size) (hbA : ¬ A b) (hS : va_S A H0 H locs) : PreS s H (va_Pc As (fun U => va_X b L xs U U.heap)) As := ⟨fun a U g mk q => ⟨q.1, va_X.moved (u := U) (U := U.calling g mk a) (Vm.Alike.refl U.vm) q.2⟩, fun U hU hW => ⟨rfl, by show va_X b L xs U U.heap; rw [hU]; exact va_X.moved hW.alike (hX.kept (hS.2.1 b hbl hbA))⟩⟩
end LW9
theorem CObj_at {cI cZ cG : ClassId} {hC k n : Nat} {tf ff : Nat → Nat} {sc mv : Nat} {s5 zs : Nat → Nat} {sf : Nat → Option Nat} {sg : Nat} {pr : Nat → Nat} {vs : Nat → Int32} {tc : Nat → Nat} {dn : Nat} {wr : Nat → Nat} {w : va_W} (h : CObj cI cZ cG hC k n tf ff sc mv s5 zs sf sg pr vs tc dn wr w) : ∃ fs, w[0]? = some (hC, .inr (7, fs)) := by
  obtain ⟨h, a, b, hG, aG, bG, dG, gG, kS, aS, bS, dS, eS, gS9, fS, hY, aY, h5, a5, b5, d5, h6, a6, b6, d6, kD, aD, ro, gc, gn, gF, gT, gS, gO, k0, G0, l0, m0, t0, sm, tr, be, mf, mx, yc, ym, rfl, -⟩ := h
  exact ⟨_, rfl⟩
theorem MObj_at {cI cZ : ClassId} {hM k n : Nat} {tf ff : Nat → Nat} {iS sc sn mv sg dn : Nat} {sf : Nat → Option Nat} {sm pr gd tc wr : Nat → Nat} {w : va_W} (h : MObj cI cZ hM k n tf ff iS sc sn mv sg dn sf sm pr gd tc wr w) : ∃ fs, w[0]? = some (hM, .inr (8, fs)) := by
  obtain ⟨z1, z2, z3, z4, z5, z6, z7, z8, z9, z10, z11, z12, z13, z14, th, gc, bf, gF, gT, wy, be, tk, rfl⟩ := h
  exact ⟨_, rfl⟩

/-- a ShardRows and a ShardRowsModel that have gone the same way -/
def PO9 (cI cZ cG : ClassId) (hC hM : Nat) (w1 w2 : va_W) : Prop := ∃ (k n : Nat) (tf ff : Nat → Nat) (sc mv : Nat) (s5 zs : Nat → Nat) (sf : Nat → Option Nat) (sg : Nat) (pr : Nat → Nat) (vs : Nat → Int32) (tc : Nat → Nat) (dn : Nat) (wr : Nat → Nat) (iS sn : Nat) (gd : Nat → Nat), CObj cI cZ cG hC k n tf ff sc mv s5 zs sf sg pr vs tc dn wr w1 ∧ MObj cI cZ hM k n tf ff iS sc sn mv sg dn sf s5 pr gd tc wr w2 ∧ RA9 k n tf ff ∧ RS9 n sc zs sf iS sn ∧ RR9 sn pr vs tc gd ∧ dn ≤ 24
/-- what stays true of the law's run -/
def LC9 (p : Program) (s : State) (m : MethodId) (c : Code) (b L : Nat) (xs : Nat → Int32) (dC : Nat → ClassId) (dI : Nat → Nat → Nat) (cI cZ cG : ClassId) : Prop := p.tables.exec = Jvm.exec ∧ c.code = code ∧ c.maxLocals = 4 ∧ s.vm.findClass RLW = some m.cls ∧ (∀ w ∈ (Jvm.Cond.initialized "ShardRowsLaw") :: TB, w.before #[Value.ref b] s = true) ∧ va_X b L xs s s.heap ∧ b < s.heap.size ∧ L ≤ 2049 ∧ KX dC dI cI cZ cG s
theorem dr_alike {n sc iS sn dn : Nat} {zs : Nat → Nat} {sf : Nat → Option Nat} (h : RS9 n sc zs sf iS sn) (hn : n ≤ 24) (x : Int32) (z : Int64) (wr : Nat → Nat) : (drwN sc x).elim dn (fun q => dgN sf q sn) = (drwN sc x).elim dn (fun q => dgN sf q 24) ∧ (drwN sc x).elim wr (fun q => shf (dgN sf q sn - 1) z (dgR sf q wr sn)) = (drwN sc x).elim wr (fun q => shf (dgN sf q 24 - 1) z (dgR sf q wr 24)) ∧ (drwN sc x).elim (-1) (fun q => nI (dgN sf q sn)) = (drwN sc x).elim (-1) (fun q => nI (dgN sf q 24)) := by
  cases drwN sc x with
  | none => exact ⟨rfl, rfl, rfl⟩
  | some q =>
    obtain ⟨e1, e2⟩ := rs_dg h hn q wr
    refine ⟨e1.symm, ?_, ?_⟩
    · show shf (dgN sf q sn - 1) z (dgR sf q wr sn) = shf (dgN sf q 24 - 1) z (dgR sf q wr 24)
      rw [e1, e2]
    · show nI (dgN sf q sn) = nI (dgN sf q 24)
      rw [e1]

