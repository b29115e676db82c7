theorem d_La_law_0 : decode code 0 = .ok (.new 7, 3) := by decide +kernel
theorem d_La_law_3 : decode code 3 = .ok (.dup, 1) := by decide +kernel
theorem d_La_law_4 : decode code 4 = .ok (.invokespecial 9, 3) := by decide +kernel
theorem d_La_law_7 : decode code 7 = .ok (.astore_n 1, 1) := by decide +kernel
theorem d_La_law_8 : decode code 8 = .ok (.new 10, 3) := by decide +kernel
theorem d_La_law_11 : decode code 11 = .ok (.dup, 1) := by decide +kernel
theorem d_La_law_12 : decode code 12 = .ok (.invokespecial 12, 3) := by decide +kernel
theorem d_La_law_15 : decode code 15 = .ok (.astore_n 2, 1) := by decide +kernel
theorem d_La_law_16 : decode code 16 = .ok (.iconst 0, 1) := by decide +kernel
theorem d_La_law_17 : decode code 17 = .ok (.istore_n 3, 1) := by decide +kernel
theorem d_La_law_18 : decode code 18 = .ok (.iload_n 3, 1) := by decide +kernel
theorem d_La_law_19 : decode code 19 = .ok (.aload_n 0, 1) := by decide +kernel
theorem d_La_law_20 : decode code 20 = .ok (.arraylength, 1) := by decide +kernel
theorem d_La_law_21 : decode code 21 = .ok (.iconst 4, 1) := by decide +kernel
theorem d_La_law_22 : decode code 22 = .ok (.isub, 1) := by decide +kernel
theorem d_La_law_23 : decode code 23 = .ok (.if_icmp .gt 916, 3) := by decide +kernel
theorem d_La_law_26 : decode code 26 = .ok (.aload_n 0, 1) := by decide +kernel
theorem d_La_law_27 : decode code 27 = .ok (.iload_n 3, 1) := by decide +kernel
theorem d_La_law_28 : decode code 28 = .ok (.iaload, 1) := by decide +kernel
theorem d_La_law_29 : decode code 29 = .ok (.bipush 31, 2) := by decide +kernel
theorem d_La_law_31 : decode code 31 = .ok (.iand, 1) := by decide +kernel
theorem d_La_law_32 : decode code 32 = .ok (.tableswitch 901 0 27 #[128, 151, 164, 177, 190, 213, 246, 279, 312, 335, 358, 381, 404, 417, 430, 463, 502, 525, 558, 607, 650, 663, 676, 719, 778, 832, 855, 878], 128) := by decide +kernel
theorem d_La_law_160 : decode code 160 = .ok (.aload_n 1, 1) := by decide +kernel
theorem d_La_law_161 : decode code 161 = .ok (.aload_n 0, 1) := by decide +kernel
theorem d_La_law_162 : decode code 162 = .ok (.iload_n 3, 1) := by decide +kernel
theorem d_La_law_163 : decode code 163 = .ok (.iconst 1, 1) := by decide +kernel
theorem d_La_law_164 : decode code 164 = .ok (.iadd, 1) := by decide +kernel
theorem d_La_law_165 : decode code 165 = .ok (.iaload, 1) := by decide +kernel
theorem d_La_law_166 : decode code 166 = .ok (.invokevirtual 13, 3) := by decide +kernel
theorem d_La_law_169 : decode code 169 = .ok (.aload_n 2, 1) := by decide +kernel
theorem d_La_law_170 : decode code 170 = .ok (.aload_n 0, 1) := by decide +kernel
theorem d_La_law_171 : decode code 171 = .ok (.iload_n 3, 1) := by decide +kernel
theorem d_La_law_172 : decode code 172 = .ok (.iconst 1, 1) := by decide +kernel
theorem d_La_law_173 : decode code 173 = .ok (.iadd, 1) := by decide +kernel
theorem d_La_law_174 : decode code 174 = .ok (.iaload, 1) := by decide +kernel
theorem d_La_law_175 : decode code 175 = .ok (.invokevirtual 17, 3) := by decide +kernel
theorem d_La_law_178 : decode code 178 = .ok (.if_icmp .eq 755, 3) := by decide +kernel
theorem d_La_law_181 : decode code 181 = .ok (.iconst 0, 1) := by decide +kernel
theorem d_La_law_182 : decode code 182 = .ok (.ireturn, 1) := by decide +kernel
theorem d_La_law_183 : decode code 183 = .ok (.aload_n 1, 1) := by decide +kernel
theorem d_La_law_184 : decode code 184 = .ok (.invokevirtual 18, 3) := by decide +kernel
theorem d_La_law_187 : decode code 187 = .ok (.aload_n 2, 1) := by decide +kernel
theorem d_La_law_188 : decode code 188 = .ok (.invokevirtual 22, 3) := by decide +kernel
theorem d_La_law_191 : decode code 191 = .ok (.if_icmp .eq 742, 3) := by decide +kernel
theorem d_La_law_194 : decode code 194 = .ok (.iconst 0, 1) := by decide +kernel
theorem d_La_law_195 : decode code 195 = .ok (.ireturn, 1) := by decide +kernel
theorem d_La_law_196 : decode code 196 = .ok (.aload_n 1, 1) := by decide +kernel
theorem d_La_law_197 : decode code 197 = .ok (.invokevirtual 23, 3) := by decide +kernel
theorem d_La_law_200 : decode code 200 = .ok (.aload_n 2, 1) := by decide +kernel
theorem d_La_law_201 : decode code 201 = .ok (.invokevirtual 26, 3) := by decide +kernel
theorem d_La_law_204 : decode code 204 = .ok (.if_icmp .eq 729, 3) := by decide +kernel
theorem d_La_law_207 : decode code 207 = .ok (.iconst 0, 1) := by decide +kernel
theorem d_La_law_208 : decode code 208 = .ok (.ireturn, 1) := by decide +kernel
theorem d_La_law_209 : decode code 209 = .ok (.aload_n 1, 1) := by decide +kernel
theorem d_La_law_210 : decode code 210 = .ok (.invokevirtual 27, 3) := by decide +kernel
theorem d_La_law_213 : decode code 213 = .ok (.aload_n 2, 1) := by decide +kernel
theorem d_La_law_214 : decode code 214 = .ok (.invokevirtual 30, 3) := by decide +kernel
theorem d_La_law_217 : decode code 217 = .ok (.if_icmp .eq 716, 3) := by decide +kernel
theorem d_La_law_220 : decode code 220 = .ok (.iconst 0, 1) := by decide +kernel
theorem d_La_law_221 : decode code 221 = .ok (.ireturn, 1) := by decide +kernel
theorem d_La_law_222 : decode code 222 = .ok (.aload_n 1, 1) := by decide +kernel
theorem d_La_law_223 : decode code 223 = .ok (.aload_n 0, 1) := by decide +kernel
theorem d_La_law_224 : decode code 224 = .ok (.iload_n 3, 1) := by decide +kernel
theorem d_La_law_225 : decode code 225 = .ok (.iconst 1, 1) := by decide +kernel
theorem d_La_law_226 : decode code 226 = .ok (.iadd, 1) := by decide +kernel
theorem d_La_law_227 : decode code 227 = .ok (.iaload, 1) := by decide +kernel
theorem d_La_law_228 : decode code 228 = .ok (.invokevirtual 31, 3) := by decide +kernel
theorem d_La_law_231 : decode code 231 = .ok (.aload_n 2, 1) := by decide +kernel
theorem d_La_law_232 : decode code 232 = .ok (.aload_n 0, 1) := by decide +kernel
theorem d_La_law_233 : decode code 233 = .ok (.iload_n 3, 1) := by decide +kernel
theorem d_La_law_234 : decode code 234 = .ok (.iconst 1, 1) := by decide +kernel
theorem d_La_law_235 : decode code 235 = .ok (.iadd, 1) := by decide +kernel
theorem d_La_law_236 : decode code 236 = .ok (.iaload, 1) := by decide +kernel
theorem d_La_law_237 : decode code 237 = .ok (.invokevirtual 34, 3) := by decide +kernel
theorem d_La_law_240 : decode code 240 = .ok (.if_icmp .eq 693, 3) := by decide +kernel
theorem d_La_law_243 : decode code 243 = .ok (.iconst 0, 1) := by decide +kernel
theorem d_La_law_244 : decode code 244 = .ok (.ireturn, 1) := by decide +kernel
theorem d_La_law_245 : decode code 245 = .ok (.aload_n 1, 1) := by decide +kernel
theorem d_La_law_246 : decode code 246 = .ok (.aload_n 0, 1) := by decide +kernel
theorem d_La_law_247 : decode code 247 = .ok (.iload_n 3, 1) := by decide +kernel
theorem d_La_law_248 : decode code 248 = .ok (.iconst 1, 1) := by decide +kernel
theorem d_La_law_249 : decode code 249 = .ok (.iadd, 1) := by decide +kernel
theorem d_La_law_250 : decode code 250 = .ok (.iaload, 1) := by decide +kernel
theorem d_La_law_251 : decode code 251 = .ok (.aload_n 0, 1) := by decide +kernel
theorem d_La_law_252 : decode code 252 = .ok (.iload_n 3, 1) := by decide +kernel
theorem d_La_law_253 : decode code 253 = .ok (.iconst 2, 1) := by decide +kernel
theorem d_La_law_254 : decode code 254 = .ok (.iadd, 1) := by decide +kernel
theorem d_La_law_255 : decode code 255 = .ok (.iaload, 1) := by decide +kernel
theorem d_La_law_256 : decode code 256 = .ok (.invokevirtual 35, 3) := by decide +kernel
theorem d_La_law_259 : decode code 259 = .ok (.aload_n 2, 1) := by decide +kernel
theorem d_La_law_260 : decode code 260 = .ok (.aload_n 0, 1) := by decide +kernel
theorem d_La_law_261 : decode code 261 = .ok (.iload_n 3, 1) := by decide +kernel
theorem d_La_law_262 : decode code 262 = .ok (.iconst 1, 1) := by decide +kernel
theorem d_La_law_263 : decode code 263 = .ok (.iadd, 1) := by decide +kernel
theorem d_La_law_264 : decode code 264 = .ok (.iaload, 1) := by decide +kernel
theorem d_La_law_265 : decode code 265 = .ok (.aload_n 0, 1) := by decide +kernel
theorem d_La_law_266 : decode code 266 = .ok (.iload_n 3, 1) := by decide +kernel
theorem d_La_law_267 : decode code 267 = .ok (.iconst 2, 1) := by decide +kernel
theorem d_La_law_268 : decode code 268 = .ok (.iadd, 1) := by decide +kernel
theorem d_La_law_269 : decode code 269 = .ok (.iaload, 1) := by decide +kernel
theorem d_La_law_270 : decode code 270 = .ok (.invokevirtual 39, 3) := by decide +kernel
theorem d_La_law_273 : decode code 273 = .ok (.if_icmp .eq 660, 3) := by decide +kernel
theorem d_La_law_276 : decode code 276 = .ok (.iconst 0, 1) := by decide +kernel
theorem d_La_law_277 : decode code 277 = .ok (.ireturn, 1) := by decide +kernel
theorem d_La_law_278 : decode code 278 = .ok (.aload_n 1, 1) := by decide +kernel
theorem d_La_law_279 : decode code 279 = .ok (.aload_n 0, 1) := by decide +kernel
theorem d_La_law_280 : decode code 280 = .ok (.iload_n 3, 1) := by decide +kernel
theorem d_La_law_281 : decode code 281 = .ok (.iconst 1, 1) := by decide +kernel
theorem d_La_law_282 : decode code 282 = .ok (.iadd, 1) := by decide +kernel
theorem d_La_law_283 : decode code 283 = .ok (.iaload, 1) := by decide +kernel
theorem d_La_law_284 : decode code 284 = .ok (.aload_n 0, 1) := by decide +kernel
theorem d_La_law_285 : decode code 285 = .ok (.iload_n 3, 1) := by decide +kernel
theorem d_La_law_286 : decode code 286 = .ok (.iconst 2, 1) := by decide +kernel
theorem d_La_law_287 : decode code 287 = .ok (.iadd, 1) := by decide +kernel
theorem d_La_law_288 : decode code 288 = .ok (.iaload, 1) := by decide +kernel
theorem d_La_law_289 : decode code 289 = .ok (.invokevirtual 40, 3) := by decide +kernel
theorem d_La_law_292 : decode code 292 = .ok (.aload_n 2, 1) := by decide +kernel
theorem d_La_law_293 : decode code 293 = .ok (.aload_n 0, 1) := by decide +kernel
theorem d_La_law_294 : decode code 294 = .ok (.iload_n 3, 1) := by decide +kernel
theorem d_La_law_295 : decode code 295 = .ok (.iconst 1, 1) := by decide +kernel
theorem d_La_law_296 : decode code 296 = .ok (.iadd, 1) := by decide +kernel
theorem d_La_law_297 : decode code 297 = .ok (.iaload, 1) := by decide +kernel
theorem d_La_law_298 : decode code 298 = .ok (.aload_n 0, 1) := by decide +kernel
theorem d_La_law_299 : decode code 299 = .ok (.iload_n 3, 1) := by decide +kernel
theorem d_La_law_300 : decode code 300 = .ok (.iconst 2, 1) := by decide +kernel
theorem d_La_law_301 : decode code 301 = .ok (.iadd, 1) := by decide +kernel
theorem d_La_law_302 : decode code 302 = .ok (.iaload, 1) := by decide +kernel
theorem d_La_law_303 : decode code 303 = .ok (.invokevirtual 43, 3) := by decide +kernel
theorem d_La_law_306 : decode code 306 = .ok (.if_icmp .eq 627, 3) := by decide +kernel
theorem d_La_law_309 : decode code 309 = .ok (.iconst 0, 1) := by decide +kernel
theorem d_La_law_310 : decode code 310 = .ok (.ireturn, 1) := by decide +kernel
theorem d_La_law_311 : decode code 311 = .ok (.aload_n 1, 1) := by decide +kernel
theorem d_La_law_312 : decode code 312 = .ok (.aload_n 0, 1) := by decide +kernel
theorem d_La_law_313 : decode code 313 = .ok (.iload_n 3, 1) := by decide +kernel
theorem d_La_law_314 : decode code 314 = .ok (.iconst 1, 1) := by decide +kernel
theorem d_La_law_315 : decode code 315 = .ok (.iadd, 1) := by decide +kernel
theorem d_La_law_316 : decode code 316 = .ok (.iaload, 1) := by decide +kernel
theorem d_La_law_317 : decode code 317 = .ok (.aload_n 0, 1) := by decide +kernel
theorem d_La_law_318 : decode code 318 = .ok (.iload_n 3, 1) := by decide +kernel
theorem d_La_law_319 : decode code 319 = .ok (.iconst 2, 1) := by decide +kernel
theorem d_La_law_320 : decode code 320 = .ok (.iadd, 1) := by decide +kernel
theorem d_La_law_321 : decode code 321 = .ok (.iaload, 1) := by decide +kernel
theorem d_La_law_322 : decode code 322 = .ok (.invokevirtual 44, 3) := by decide +kernel
theorem d_La_law_325 : decode code 325 = .ok (.aload_n 2, 1) := by decide +kernel
theorem d_La_law_326 : decode code 326 = .ok (.aload_n 0, 1) := by decide +kernel
theorem d_La_law_327 : decode code 327 = .ok (.iload_n 3, 1) := by decide +kernel
theorem d_La_law_328 : decode code 328 = .ok (.iconst 1, 1) := by decide +kernel
theorem d_La_law_329 : decode code 329 = .ok (.iadd, 1) := by decide +kernel
theorem d_La_law_330 : decode code 330 = .ok (.iaload, 1) := by decide +kernel
theorem d_La_law_331 : decode code 331 = .ok (.aload_n 0, 1) := by decide +kernel
theorem d_La_law_332 : decode code 332 = .ok (.iload_n 3, 1) := by decide +kernel
theorem d_La_law_333 : decode code 333 = .ok (.iconst 2, 1) := by decide +kernel
theorem d_La_law_334 : decode code 334 = .ok (.iadd, 1) := by decide +kernel
theorem d_La_law_335 : decode code 335 = .ok (.iaload, 1) := by decide +kernel
theorem d_La_law_336 : decode code 336 = .ok (.invokevirtual 47, 3) := by decide +kernel
theorem d_La_law_339 : decode code 339 = .ok (.if_icmp .eq 594, 3) := by decide +kernel
theorem d_La_law_342 : decode code 342 = .ok (.iconst 0, 1) := by decide +kernel
theorem d_La_law_343 : decode code 343 = .ok (.ireturn, 1) := by decide +kernel
theorem d_La_law_344 : decode code 344 = .ok (.aload_n 1, 1) := by decide +kernel
theorem d_La_law_345 : decode code 345 = .ok (.aload_n 0, 1) := by decide +kernel
theorem d_La_law_346 : decode code 346 = .ok (.iload_n 3, 1) := by decide +kernel
theorem d_La_law_347 : decode code 347 = .ok (.iconst 1, 1) := by decide +kernel
theorem d_La_law_348 : decode code 348 = .ok (.iadd, 1) := by decide +kernel
theorem d_La_law_349 : decode code 349 = .ok (.iaload, 1) := by decide +kernel
theorem d_La_law_350 : decode code 350 = .ok (.invokevirtual 48, 3) := by decide +kernel
theorem d_La_law_353 : decode code 353 = .ok (.aload_n 2, 1) := by decide +kernel
theorem d_La_law_354 : decode code 354 = .ok (.aload_n 0, 1) := by decide +kernel
theorem d_La_law_355 : decode code 355 = .ok (.iload_n 3, 1) := by decide +kernel
theorem d_La_law_356 : decode code 356 = .ok (.iconst 1, 1) := by decide +kernel
theorem d_La_law_357 : decode code 357 = .ok (.iadd, 1) := by decide +kernel
theorem d_La_law_358 : decode code 358 = .ok (.iaload, 1) := by decide +kernel
theorem d_La_law_359 : decode code 359 = .ok (.invokevirtual 51, 3) := by decide +kernel
theorem d_La_law_362 : decode code 362 = .ok (.if_icmp .eq 571, 3) := by decide +kernel
theorem d_La_law_365 : decode code 365 = .ok (.iconst 0, 1) := by decide +kernel
theorem d_La_law_366 : decode code 366 = .ok (.ireturn, 1) := by decide +kernel
theorem d_La_law_367 : decode code 367 = .ok (.aload_n 1, 1) := by decide +kernel
theorem d_La_law_368 : decode code 368 = .ok (.aload_n 0, 1) := by decide +kernel
theorem d_La_law_369 : decode code 369 = .ok (.iload_n 3, 1) := by decide +kernel
theorem d_La_law_370 : decode code 370 = .ok (.iconst 1, 1) := by decide +kernel
theorem d_La_law_371 : decode code 371 = .ok (.iadd, 1) := by decide +kernel
theorem d_La_law_372 : decode code 372 = .ok (.iaload, 1) := by decide +kernel
theorem d_La_law_373 : decode code 373 = .ok (.invokevirtual 52, 3) := by decide +kernel
theorem d_La_law_376 : decode code 376 = .ok (.aload_n 2, 1) := by decide +kernel
theorem d_La_law_377 : decode code 377 = .ok (.aload_n 0, 1) := by decide +kernel
theorem d_La_law_378 : decode code 378 = .ok (.iload_n 3, 1) := by decide +kernel
theorem d_La_law_379 : decode code 379 = .ok (.iconst 1, 1) := by decide +kernel
theorem d_La_law_380 : decode code 380 = .ok (.iadd, 1) := by decide +kernel
theorem d_La_law_381 : decode code 381 = .ok (.iaload, 1) := by decide +kernel
theorem d_La_law_382 : decode code 382 = .ok (.invokevirtual 55, 3) := by decide +kernel
theorem d_La_law_385 : decode code 385 = .ok (.if_icmp .eq 548, 3) := by decide +kernel
theorem d_La_law_388 : decode code 388 = .ok (.iconst 0, 1) := by decide +kernel
theorem d_La_law_389 : decode code 389 = .ok (.ireturn, 1) := by decide +kernel
theorem d_La_law_390 : decode code 390 = .ok (.aload_n 1, 1) := by decide +kernel
theorem d_La_law_391 : decode code 391 = .ok (.aload_n 0, 1) := by decide +kernel
theorem d_La_law_392 : decode code 392 = .ok (.iload_n 3, 1) := by decide +kernel
theorem d_La_law_393 : decode code 393 = .ok (.iconst 1, 1) := by decide +kernel
theorem d_La_law_394 : decode code 394 = .ok (.iadd, 1) := by decide +kernel
theorem d_La_law_395 : decode code 395 = .ok (.iaload, 1) := by decide +kernel
theorem d_La_law_396 : decode code 396 = .ok (.invokevirtual 56, 3) := by decide +kernel
theorem d_La_law_399 : decode code 399 = .ok (.aload_n 2, 1) := by decide +kernel
theorem d_La_law_400 : decode code 400 = .ok (.aload_n 0, 1) := by decide +kernel
theorem d_La_law_401 : decode code 401 = .ok (.iload_n 3, 1) := by decide +kernel
theorem d_La_law_402 : decode code 402 = .ok (.iconst 1, 1) := by decide +kernel
theorem d_La_law_403 : decode code 403 = .ok (.iadd, 1) := by decide +kernel
theorem d_La_law_404 : decode code 404 = .ok (.iaload, 1) := by decide +kernel
theorem d_La_law_405 : decode code 405 = .ok (.invokevirtual 59, 3) := by decide +kernel
theorem d_La_law_408 : decode code 408 = .ok (.if_icmp .eq 525, 3) := by decide +kernel
theorem d_La_law_411 : decode code 411 = .ok (.iconst 0, 1) := by decide +kernel
theorem d_La_law_412 : decode code 412 = .ok (.ireturn, 1) := by decide +kernel
theorem d_La_law_413 : decode code 413 = .ok (.aload_n 1, 1) := by decide +kernel
theorem d_La_law_414 : decode code 414 = .ok (.aload_n 0, 1) := by decide +kernel
theorem d_La_law_415 : decode code 415 = .ok (.iload_n 3, 1) := by decide +kernel
theorem d_La_law_416 : decode code 416 = .ok (.iconst 1, 1) := by decide +kernel
theorem d_La_law_417 : decode code 417 = .ok (.iadd, 1) := by decide +kernel
theorem d_La_law_418 : decode code 418 = .ok (.iaload, 1) := by decide +kernel
theorem d_La_law_419 : decode code 419 = .ok (.invokevirtual 60, 3) := by decide +kernel
theorem d_La_law_422 : decode code 422 = .ok (.aload_n 2, 1) := by decide +kernel
theorem d_La_law_423 : decode code 423 = .ok (.aload_n 0, 1) := by decide +kernel
theorem d_La_law_424 : decode code 424 = .ok (.iload_n 3, 1) := by decide +kernel
theorem d_La_law_425 : decode code 425 = .ok (.iconst 1, 1) := by decide +kernel
theorem d_La_law_426 : decode code 426 = .ok (.iadd, 1) := by decide +kernel
theorem d_La_law_427 : decode code 427 = .ok (.iaload, 1) := by decide +kernel
theorem d_La_law_428 : decode code 428 = .ok (.invokevirtual 63, 3) := by decide +kernel
theorem d_La_law_431 : decode code 431 = .ok (.if_icmp .eq 502, 3) := by decide +kernel
theorem d_La_law_434 : decode code 434 = .ok (.iconst 0, 1) := by decide +kernel
theorem d_La_law_435 : decode code 435 = .ok (.ireturn, 1) := by decide +kernel
theorem d_La_law_436 : decode code 436 = .ok (.aload_n 1, 1) := by decide +kernel
theorem d_La_law_437 : decode code 437 = .ok (.invokevirtual 64, 3) := by decide +kernel
theorem d_La_law_440 : decode code 440 = .ok (.aload_n 2, 1) := by decide +kernel
theorem d_La_law_441 : decode code 441 = .ok (.invokevirtual 67, 3) := by decide +kernel
theorem d_La_law_444 : decode code 444 = .ok (.if_icmp .eq 489, 3) := by decide +kernel
theorem d_La_law_447 : decode code 447 = .ok (.iconst 0, 1) := by decide +kernel
theorem d_La_law_448 : decode code 448 = .ok (.ireturn, 1) := by decide +kernel
theorem d_La_law_449 : decode code 449 = .ok (.aload_n 1, 1) := by decide +kernel
theorem d_La_law_450 : decode code 450 = .ok (.invokevirtual 68, 3) := by decide +kernel
theorem d_La_law_453 : decode code 453 = .ok (.aload_n 2, 1) := by decide +kernel
theorem d_La_law_454 : decode code 454 = .ok (.invokevirtual 71, 3) := by decide +kernel
theorem d_La_law_457 : decode code 457 = .ok (.if_icmp .eq 476, 3) := by decide +kernel
theorem d_La_law_460 : decode code 460 = .ok (.iconst 0, 1) := by decide +kernel
theorem d_La_law_461 : decode code 461 = .ok (.ireturn, 1) := by decide +kernel
theorem d_La_law_462 : decode code 462 = .ok (.aload_n 1, 1) := by decide +kernel
theorem d_La_law_463 : decode code 463 = .ok (.aload_n 0, 1) := by decide +kernel
theorem d_La_law_464 : decode code 464 = .ok (.iload_n 3, 1) := by decide +kernel
theorem d_La_law_465 : decode code 465 = .ok (.iconst 1, 1) := by decide +kernel
theorem d_La_law_466 : decode code 466 = .ok (.iadd, 1) := by decide +kernel
theorem d_La_law_467 : decode code 467 = .ok (.iaload, 1) := by decide +kernel
theorem d_La_law_468 : decode code 468 = .ok (.aload_n 0, 1) := by decide +kernel
theorem d_La_law_469 : decode code 469 = .ok (.iload_n 3, 1) := by decide +kernel
theorem d_La_law_470 : decode code 470 = .ok (.iconst 2, 1) := by decide +kernel
theorem d_La_law_471 : decode code 471 = .ok (.iadd, 1) := by decide +kernel
theorem d_La_law_472 : decode code 472 = .ok (.iaload, 1) := by decide +kernel
theorem d_La_law_473 : decode code 473 = .ok (.invokevirtual 72, 3) := by decide +kernel
theorem d_La_law_476 : decode code 476 = .ok (.aload_n 2, 1) := by decide +kernel
theorem d_La_law_477 : decode code 477 = .ok (.aload_n 0, 1) := by decide +kernel
theorem d_La_law_478 : decode code 478 = .ok (.iload_n 3, 1) := by decide +kernel
theorem d_La_law_479 : decode code 479 = .ok (.iconst 1, 1) := by decide +kernel
theorem d_La_law_480 : decode code 480 = .ok (.iadd, 1) := by decide +kernel
theorem d_La_law_481 : decode code 481 = .ok (.iaload, 1) := by decide +kernel
theorem d_La_law_482 : decode code 482 = .ok (.aload_n 0, 1) := by decide +kernel
theorem d_La_law_483 : decode code 483 = .ok (.iload_n 3, 1) := by decide +kernel
theorem d_La_law_484 : decode code 484 = .ok (.iconst 2, 1) := by decide +kernel
theorem d_La_law_485 : decode code 485 = .ok (.iadd, 1) := by decide +kernel
theorem d_La_law_486 : decode code 486 = .ok (.iaload, 1) := by decide +kernel
theorem d_La_law_487 : decode code 487 = .ok (.invokevirtual 75, 3) := by decide +kernel
theorem d_La_law_490 : decode code 490 = .ok (.if_icmp .eq 443, 3) := by decide +kernel
theorem d_La_law_493 : decode code 493 = .ok (.iconst 0, 1) := by decide +kernel
theorem d_La_law_494 : decode code 494 = .ok (.ireturn, 1) := by decide +kernel
theorem d_La_law_495 : decode code 495 = .ok (.aload_n 1, 1) := by decide +kernel
theorem d_La_law_496 : decode code 496 = .ok (.aload_n 0, 1) := by decide +kernel
theorem d_La_law_497 : decode code 497 = .ok (.iload_n 3, 1) := by decide +kernel
theorem d_La_law_498 : decode code 498 = .ok (.iconst 1, 1) := by decide +kernel
theorem d_La_law_499 : decode code 499 = .ok (.iadd, 1) := by decide +kernel
theorem d_La_law_500 : decode code 500 = .ok (.iaload, 1) := by decide +kernel
theorem d_La_law_501 : decode code 501 = .ok (.ifCond .eq 7, 3) := by decide +kernel
theorem d_La_law_504 : decode code 504 = .ok (.iconst 1, 1) := by decide +kernel
theorem d_La_law_505 : decode code 505 = .ok (.goto 4, 3) := by decide +kernel
theorem d_La_law_508 : decode code 508 = .ok (.iconst 0, 1) := by decide +kernel
theorem d_La_law_509 : decode code 509 = .ok (.invokevirtual 76, 3) := by decide +kernel
theorem d_La_law_512 : decode code 512 = .ok (.aload_n 2, 1) := by decide +kernel
theorem d_La_law_513 : decode code 513 = .ok (.aload_n 0, 1) := by decide +kernel
theorem d_La_law_514 : decode code 514 = .ok (.iload_n 3, 1) := by decide +kernel
theorem d_La_law_515 : decode code 515 = .ok (.iconst 1, 1) := by decide +kernel
theorem d_La_law_516 : decode code 516 = .ok (.iadd, 1) := by decide +kernel
theorem d_La_law_517 : decode code 517 = .ok (.iaload, 1) := by decide +kernel
theorem d_La_law_518 : decode code 518 = .ok (.ifCond .eq 7, 3) := by decide +kernel
theorem d_La_law_521 : decode code 521 = .ok (.iconst 1, 1) := by decide +kernel
theorem d_La_law_522 : decode code 522 = .ok (.goto 4, 3) := by decide +kernel
theorem d_La_law_525 : decode code 525 = .ok (.iconst 0, 1) := by decide +kernel
theorem d_La_law_526 : decode code 526 = .ok (.invokevirtual 80, 3) := by decide +kernel
theorem d_La_law_529 : decode code 529 = .ok (.if_icmp .eq 404, 3) := by decide +kernel
theorem d_La_law_532 : decode code 532 = .ok (.iconst 0, 1) := by decide +kernel
theorem d_La_law_533 : decode code 533 = .ok (.ireturn, 1) := by decide +kernel
theorem d_La_law_534 : decode code 534 = .ok (.aload_n 1, 1) := by decide +kernel
theorem d_La_law_535 : decode code 535 = .ok (.aload_n 0, 1) := by decide +kernel
theorem d_La_law_536 : decode code 536 = .ok (.iload_n 3, 1) := by decide +kernel
theorem d_La_law_537 : decode code 537 = .ok (.iconst 1, 1) := by decide +kernel
theorem d_La_law_538 : decode code 538 = .ok (.iadd, 1) := by decide +kernel
theorem d_La_law_539 : decode code 539 = .ok (.iaload, 1) := by decide +kernel
theorem d_La_law_540 : decode code 540 = .ok (.invokevirtual 81, 3) := by decide +kernel
theorem d_La_law_543 : decode code 543 = .ok (.aload_n 2, 1) := by decide +kernel
