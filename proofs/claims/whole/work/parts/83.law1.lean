abbrev m_La (nm : String) : px_M := (⟨"TubeChainLaw", nm, "([I)Z"⟩, code, 4, some .boolean)
theorem d_La_law_0 : decode code 0 = .ok (.new 7, 3) := by decide +kernel
theorem d_La_law_3 : decode code 3 = .ok (.dup, 1) := by decide +kernel
theorem d_La_law_4 : decode code 4 = .ok (.invokespecial 9, 3) := by decide +kernel
theorem d_La_law_7 : decode code 7 = .ok (.astore_n 1, 1) := by decide +kernel
theorem d_La_law_8 : decode code 8 = .ok (.new 10, 3) := by decide +kernel
theorem d_La_law_11 : decode code 11 = .ok (.dup, 1) := by decide +kernel
theorem d_La_law_12 : decode code 12 = .ok (.invokespecial 12, 3) := by decide +kernel
theorem d_La_law_15 : decode code 15 = .ok (.astore_n 2, 1) := by decide +kernel
theorem d_La_law_16 : decode code 16 = .ok (.iconst 0, 1) := by decide +kernel
theorem d_La_law_17 : decode code 17 = .ok (.istore_n 3, 1) := by decide +kernel
theorem d_La_law_18 : decode code 18 = .ok (.iload_n 3, 1) := by decide +kernel
theorem d_La_law_19 : decode code 19 = .ok (.aload_n 0, 1) := by decide +kernel
theorem d_La_law_20 : decode code 20 = .ok (.arraylength, 1) := by decide +kernel
theorem d_La_law_21 : decode code 21 = .ok (.bipush 6, 2) := by decide +kernel
theorem d_La_law_23 : decode code 23 = .ok (.isub, 1) := by decide +kernel
theorem d_La_law_24 : decode code 24 = .ok (.if_icmp .gt 1368, 3) := by decide +kernel
theorem d_La_law_27 : decode code 27 = .ok (.aload_n 0, 1) := by decide +kernel
theorem d_La_law_28 : decode code 28 = .ok (.iload_n 3, 1) := by decide +kernel
theorem d_La_law_29 : decode code 29 = .ok (.iaload, 1) := by decide +kernel
theorem d_La_law_30 : decode code 30 = .ok (.bipush 63, 2) := by decide +kernel
theorem d_La_law_32 : decode code 32 = .ok (.iand, 1) := by decide +kernel
theorem d_La_law_33 : decode code 33 = .ok (.tableswitch 1353 0 36 #[163, 196, 229, 262, 305, 338, 361, 374, 397, 420, 443, 486, 509, 542, 555, 588, 631, 664, 687, 730, 763, 786, 809, 853, 887, 936, 959, 992, 1005, 1018, 1061, 1084, 1117, 1140, 1183, 1256, 1290], 163) := by decide +kernel
theorem d_La_law_196 : decode code 196 = .ok (.aload_n 1, 1) := by decide +kernel
theorem d_La_law_197 : decode code 197 = .ok (.aload_n 0, 1) := by decide +kernel
theorem d_La_law_198 : decode code 198 = .ok (.iload_n 3, 1) := by decide +kernel
theorem d_La_law_199 : decode code 199 = .ok (.iconst 1, 1) := by decide +kernel
theorem d_La_law_200 : decode code 200 = .ok (.iadd, 1) := by decide +kernel
theorem d_La_law_201 : decode code 201 = .ok (.iaload, 1) := by decide +kernel
theorem d_La_law_202 : decode code 202 = .ok (.aload_n 0, 1) := by decide +kernel
theorem d_La_law_203 : decode code 203 = .ok (.iload_n 3, 1) := by decide +kernel
theorem d_La_law_204 : decode code 204 = .ok (.iconst 2, 1) := by decide +kernel
theorem d_La_law_205 : decode code 205 = .ok (.iadd, 1) := by decide +kernel
theorem d_La_law_206 : decode code 206 = .ok (.iaload, 1) := by decide +kernel
theorem d_La_law_207 : decode code 207 = .ok (.invokevirtual 13, 3) := by decide +kernel
theorem d_La_law_210 : decode code 210 = .ok (.aload_n 2, 1) := by decide +kernel
theorem d_La_law_211 : decode code 211 = .ok (.aload_n 0, 1) := by decide +kernel
theorem d_La_law_212 : decode code 212 = .ok (.iload_n 3, 1) := by decide +kernel
theorem d_La_law_213 : decode code 213 = .ok (.iconst 1, 1) := by decide +kernel
theorem d_La_law_214 : decode code 214 = .ok (.iadd, 1) := by decide +kernel
theorem d_La_law_215 : decode code 215 = .ok (.iaload, 1) := by decide +kernel
theorem d_La_law_216 : decode code 216 = .ok (.aload_n 0, 1) := by decide +kernel
theorem d_La_law_217 : decode code 217 = .ok (.iload_n 3, 1) := by decide +kernel
theorem d_La_law_218 : decode code 218 = .ok (.iconst 2, 1) := by decide +kernel
theorem d_La_law_219 : decode code 219 = .ok (.iadd, 1) := by decide +kernel
theorem d_La_law_220 : decode code 220 = .ok (.iaload, 1) := by decide +kernel
theorem d_La_law_221 : decode code 221 = .ok (.invokevirtual 17, 3) := by decide +kernel
theorem d_La_law_224 : decode code 224 = .ok (.if_icmp .eq 1162, 3) := by decide +kernel
theorem d_La_law_227 : decode code 227 = .ok (.iconst 0, 1) := by decide +kernel
theorem d_La_law_228 : decode code 228 = .ok (.ireturn, 1) := by decide +kernel
theorem d_La_law_229 : decode code 229 = .ok (.aload_n 1, 1) := by decide +kernel
theorem d_La_law_230 : decode code 230 = .ok (.aload_n 0, 1) := by decide +kernel
theorem d_La_law_231 : decode code 231 = .ok (.iload_n 3, 1) := by decide +kernel
theorem d_La_law_232 : decode code 232 = .ok (.iconst 1, 1) := by decide +kernel
theorem d_La_law_233 : decode code 233 = .ok (.iadd, 1) := by decide +kernel
theorem d_La_law_234 : decode code 234 = .ok (.iaload, 1) := by decide +kernel
theorem d_La_law_235 : decode code 235 = .ok (.aload_n 0, 1) := by decide +kernel
theorem d_La_law_236 : decode code 236 = .ok (.iload_n 3, 1) := by decide +kernel
theorem d_La_law_237 : decode code 237 = .ok (.iconst 2, 1) := by decide +kernel
theorem d_La_law_238 : decode code 238 = .ok (.iadd, 1) := by decide +kernel
theorem d_La_law_239 : decode code 239 = .ok (.iaload, 1) := by decide +kernel
theorem d_La_law_240 : decode code 240 = .ok (.invokevirtual 18, 3) := by decide +kernel
theorem d_La_law_243 : decode code 243 = .ok (.aload_n 2, 1) := by decide +kernel
theorem d_La_law_244 : decode code 244 = .ok (.aload_n 0, 1) := by decide +kernel
theorem d_La_law_245 : decode code 245 = .ok (.iload_n 3, 1) := by decide +kernel
theorem d_La_law_246 : decode code 246 = .ok (.iconst 1, 1) := by decide +kernel
theorem d_La_law_247 : decode code 247 = .ok (.iadd, 1) := by decide +kernel
theorem d_La_law_248 : decode code 248 = .ok (.iaload, 1) := by decide +kernel
theorem d_La_law_249 : decode code 249 = .ok (.aload_n 0, 1) := by decide +kernel
theorem d_La_law_250 : decode code 250 = .ok (.iload_n 3, 1) := by decide +kernel
theorem d_La_law_251 : decode code 251 = .ok (.iconst 2, 1) := by decide +kernel
theorem d_La_law_252 : decode code 252 = .ok (.iadd, 1) := by decide +kernel
theorem d_La_law_253 : decode code 253 = .ok (.iaload, 1) := by decide +kernel
theorem d_La_law_254 : decode code 254 = .ok (.invokevirtual 21, 3) := by decide +kernel
theorem d_La_law_257 : decode code 257 = .ok (.if_icmp .eq 1129, 3) := by decide +kernel
theorem d_La_law_260 : decode code 260 = .ok (.iconst 0, 1) := by decide +kernel
theorem d_La_law_261 : decode code 261 = .ok (.ireturn, 1) := by decide +kernel
theorem d_La_law_262 : decode code 262 = .ok (.aload_n 1, 1) := by decide +kernel
theorem d_La_law_263 : decode code 263 = .ok (.aload_n 0, 1) := by decide +kernel
theorem d_La_law_264 : decode code 264 = .ok (.iload_n 3, 1) := by decide +kernel
theorem d_La_law_265 : decode code 265 = .ok (.iconst 1, 1) := by decide +kernel
theorem d_La_law_266 : decode code 266 = .ok (.iadd, 1) := by decide +kernel
theorem d_La_law_267 : decode code 267 = .ok (.iaload, 1) := by decide +kernel
theorem d_La_law_268 : decode code 268 = .ok (.aload_n 0, 1) := by decide +kernel
theorem d_La_law_269 : decode code 269 = .ok (.iload_n 3, 1) := by decide +kernel
theorem d_La_law_270 : decode code 270 = .ok (.iconst 2, 1) := by decide +kernel
theorem d_La_law_271 : decode code 271 = .ok (.iadd, 1) := by decide +kernel
theorem d_La_law_272 : decode code 272 = .ok (.iaload, 1) := by decide +kernel
theorem d_La_law_273 : decode code 273 = .ok (.invokevirtual 22, 3) := by decide +kernel
theorem d_La_law_276 : decode code 276 = .ok (.aload_n 2, 1) := by decide +kernel
theorem d_La_law_277 : decode code 277 = .ok (.aload_n 0, 1) := by decide +kernel
theorem d_La_law_278 : decode code 278 = .ok (.iload_n 3, 1) := by decide +kernel
theorem d_La_law_279 : decode code 279 = .ok (.iconst 1, 1) := by decide +kernel
theorem d_La_law_280 : decode code 280 = .ok (.iadd, 1) := by decide +kernel
theorem d_La_law_281 : decode code 281 = .ok (.iaload, 1) := by decide +kernel
theorem d_La_law_282 : decode code 282 = .ok (.aload_n 0, 1) := by decide +kernel
theorem d_La_law_283 : decode code 283 = .ok (.iload_n 3, 1) := by decide +kernel
theorem d_La_law_284 : decode code 284 = .ok (.iconst 2, 1) := by decide +kernel
theorem d_La_law_285 : decode code 285 = .ok (.iadd, 1) := by decide +kernel
theorem d_La_law_286 : decode code 286 = .ok (.iaload, 1) := by decide +kernel
theorem d_La_law_287 : decode code 287 = .ok (.invokevirtual 25, 3) := by decide +kernel
theorem d_La_law_290 : decode code 290 = .ok (.if_icmp .eq 1096, 3) := by decide +kernel
theorem d_La_law_293 : decode code 293 = .ok (.iconst 0, 1) := by decide +kernel
theorem d_La_law_294 : decode code 294 = .ok (.ireturn, 1) := by decide +kernel
theorem d_La_law_295 : decode code 295 = .ok (.aload_n 1, 1) := by decide +kernel
theorem d_La_law_296 : decode code 296 = .ok (.aload_n 0, 1) := by decide +kernel
theorem d_La_law_297 : decode code 297 = .ok (.iload_n 3, 1) := by decide +kernel
theorem d_La_law_298 : decode code 298 = .ok (.iconst 1, 1) := by decide +kernel
theorem d_La_law_299 : decode code 299 = .ok (.iadd, 1) := by decide +kernel
theorem d_La_law_300 : decode code 300 = .ok (.iaload, 1) := by decide +kernel
theorem d_La_law_301 : decode code 301 = .ok (.aload_n 0, 1) := by decide +kernel
theorem d_La_law_302 : decode code 302 = .ok (.iload_n 3, 1) := by decide +kernel
theorem d_La_law_303 : decode code 303 = .ok (.iconst 2, 1) := by decide +kernel
theorem d_La_law_304 : decode code 304 = .ok (.iadd, 1) := by decide +kernel
theorem d_La_law_305 : decode code 305 = .ok (.iaload, 1) := by decide +kernel
theorem d_La_law_306 : decode code 306 = .ok (.aload_n 0, 1) := by decide +kernel
theorem d_La_law_307 : decode code 307 = .ok (.iload_n 3, 1) := by decide +kernel
theorem d_La_law_308 : decode code 308 = .ok (.iconst 3, 1) := by decide +kernel
theorem d_La_law_309 : decode code 309 = .ok (.iadd, 1) := by decide +kernel
theorem d_La_law_310 : decode code 310 = .ok (.iaload, 1) := by decide +kernel
theorem d_La_law_311 : decode code 311 = .ok (.invokevirtual 26, 3) := by decide +kernel
theorem d_La_law_314 : decode code 314 = .ok (.aload_n 2, 1) := by decide +kernel
theorem d_La_law_315 : decode code 315 = .ok (.aload_n 0, 1) := by decide +kernel
theorem d_La_law_316 : decode code 316 = .ok (.iload_n 3, 1) := by decide +kernel
theorem d_La_law_317 : decode code 317 = .ok (.iconst 1, 1) := by decide +kernel
theorem d_La_law_318 : decode code 318 = .ok (.iadd, 1) := by decide +kernel
theorem d_La_law_319 : decode code 319 = .ok (.iaload, 1) := by decide +kernel
theorem d_La_law_320 : decode code 320 = .ok (.aload_n 0, 1) := by decide +kernel
theorem d_La_law_321 : decode code 321 = .ok (.iload_n 3, 1) := by decide +kernel
theorem d_La_law_322 : decode code 322 = .ok (.iconst 2, 1) := by decide +kernel
theorem d_La_law_323 : decode code 323 = .ok (.iadd, 1) := by decide +kernel
theorem d_La_law_324 : decode code 324 = .ok (.iaload, 1) := by decide +kernel
theorem d_La_law_325 : decode code 325 = .ok (.aload_n 0, 1) := by decide +kernel
theorem d_La_law_326 : decode code 326 = .ok (.iload_n 3, 1) := by decide +kernel
theorem d_La_law_327 : decode code 327 = .ok (.iconst 3, 1) := by decide +kernel
theorem d_La_law_328 : decode code 328 = .ok (.iadd, 1) := by decide +kernel
theorem d_La_law_329 : decode code 329 = .ok (.iaload, 1) := by decide +kernel
theorem d_La_law_330 : decode code 330 = .ok (.invokevirtual 30, 3) := by decide +kernel
theorem d_La_law_333 : decode code 333 = .ok (.if_icmp .eq 1053, 3) := by decide +kernel
theorem d_La_law_336 : decode code 336 = .ok (.iconst 0, 1) := by decide +kernel
theorem d_La_law_337 : decode code 337 = .ok (.ireturn, 1) := by decide +kernel
theorem d_La_law_338 : decode code 338 = .ok (.aload_n 1, 1) := by decide +kernel
theorem d_La_law_339 : decode code 339 = .ok (.aload_n 0, 1) := by decide +kernel
theorem d_La_law_340 : decode code 340 = .ok (.iload_n 3, 1) := by decide +kernel
theorem d_La_law_341 : decode code 341 = .ok (.iconst 1, 1) := by decide +kernel
theorem d_La_law_342 : decode code 342 = .ok (.iadd, 1) := by decide +kernel
theorem d_La_law_343 : decode code 343 = .ok (.iaload, 1) := by decide +kernel
theorem d_La_law_344 : decode code 344 = .ok (.aload_n 0, 1) := by decide +kernel
theorem d_La_law_345 : decode code 345 = .ok (.iload_n 3, 1) := by decide +kernel
theorem d_La_law_346 : decode code 346 = .ok (.iconst 2, 1) := by decide +kernel
theorem d_La_law_347 : decode code 347 = .ok (.iadd, 1) := by decide +kernel
theorem d_La_law_348 : decode code 348 = .ok (.iaload, 1) := by decide +kernel
theorem d_La_law_349 : decode code 349 = .ok (.invokevirtual 31, 3) := by decide +kernel
theorem d_La_law_352 : decode code 352 = .ok (.aload_n 2, 1) := by decide +kernel
theorem d_La_law_353 : decode code 353 = .ok (.aload_n 0, 1) := by decide +kernel
theorem d_La_law_354 : decode code 354 = .ok (.iload_n 3, 1) := by decide +kernel
theorem d_La_law_355 : decode code 355 = .ok (.iconst 1, 1) := by decide +kernel
theorem d_La_law_356 : decode code 356 = .ok (.iadd, 1) := by decide +kernel
theorem d_La_law_357 : decode code 357 = .ok (.iaload, 1) := by decide +kernel
theorem d_La_law_358 : decode code 358 = .ok (.aload_n 0, 1) := by decide +kernel
theorem d_La_law_359 : decode code 359 = .ok (.iload_n 3, 1) := by decide +kernel
theorem d_La_law_360 : decode code 360 = .ok (.iconst 2, 1) := by decide +kernel
theorem d_La_law_361 : decode code 361 = .ok (.iadd, 1) := by decide +kernel
theorem d_La_law_362 : decode code 362 = .ok (.iaload, 1) := by decide +kernel
theorem d_La_law_363 : decode code 363 = .ok (.invokevirtual 34, 3) := by decide +kernel
theorem d_La_law_366 : decode code 366 = .ok (.if_icmp .eq 1020, 3) := by decide +kernel
theorem d_La_law_369 : decode code 369 = .ok (.iconst 0, 1) := by decide +kernel
theorem d_La_law_370 : decode code 370 = .ok (.ireturn, 1) := by decide +kernel
theorem d_La_law_371 : decode code 371 = .ok (.aload_n 1, 1) := by decide +kernel
theorem d_La_law_372 : decode code 372 = .ok (.aload_n 0, 1) := by decide +kernel
theorem d_La_law_373 : decode code 373 = .ok (.iload_n 3, 1) := by decide +kernel
theorem d_La_law_374 : decode code 374 = .ok (.iconst 1, 1) := by decide +kernel
theorem d_La_law_375 : decode code 375 = .ok (.iadd, 1) := by decide +kernel
theorem d_La_law_376 : decode code 376 = .ok (.iaload, 1) := by decide +kernel
theorem d_La_law_377 : decode code 377 = .ok (.invokevirtual 35, 3) := by decide +kernel
theorem d_La_law_380 : decode code 380 = .ok (.aload_n 2, 1) := by decide +kernel
theorem d_La_law_381 : decode code 381 = .ok (.aload_n 0, 1) := by decide +kernel
theorem d_La_law_382 : decode code 382 = .ok (.iload_n 3, 1) := by decide +kernel
theorem d_La_law_383 : decode code 383 = .ok (.iconst 1, 1) := by decide +kernel
theorem d_La_law_384 : decode code 384 = .ok (.iadd, 1) := by decide +kernel
theorem d_La_law_385 : decode code 385 = .ok (.iaload, 1) := by decide +kernel
theorem d_La_law_386 : decode code 386 = .ok (.invokevirtual 39, 3) := by decide +kernel
theorem d_La_law_389 : decode code 389 = .ok (.if_icmp .eq 997, 3) := by decide +kernel
theorem d_La_law_392 : decode code 392 = .ok (.iconst 0, 1) := by decide +kernel
theorem d_La_law_393 : decode code 393 = .ok (.ireturn, 1) := by decide +kernel
theorem d_La_law_394 : decode code 394 = .ok (.aload_n 1, 1) := by decide +kernel
theorem d_La_law_395 : decode code 395 = .ok (.invokevirtual 40, 3) := by decide +kernel
theorem d_La_law_398 : decode code 398 = .ok (.aload_n 2, 1) := by decide +kernel
theorem d_La_law_399 : decode code 399 = .ok (.invokevirtual 44, 3) := by decide +kernel
theorem d_La_law_402 : decode code 402 = .ok (.if_icmp .eq 984, 3) := by decide +kernel
theorem d_La_law_405 : decode code 405 = .ok (.iconst 0, 1) := by decide +kernel
theorem d_La_law_406 : decode code 406 = .ok (.ireturn, 1) := by decide +kernel
theorem d_La_law_407 : decode code 407 = .ok (.aload_n 1, 1) := by decide +kernel
theorem d_La_law_408 : decode code 408 = .ok (.aload_n 0, 1) := by decide +kernel
theorem d_La_law_409 : decode code 409 = .ok (.iload_n 3, 1) := by decide +kernel
theorem d_La_law_410 : decode code 410 = .ok (.iconst 1, 1) := by decide +kernel
theorem d_La_law_411 : decode code 411 = .ok (.iadd, 1) := by decide +kernel
theorem d_La_law_412 : decode code 412 = .ok (.iaload, 1) := by decide +kernel
theorem d_La_law_413 : decode code 413 = .ok (.invokevirtual 45, 3) := by decide +kernel
theorem d_La_law_416 : decode code 416 = .ok (.aload_n 2, 1) := by decide +kernel
theorem d_La_law_417 : decode code 417 = .ok (.aload_n 0, 1) := by decide +kernel
theorem d_La_law_418 : decode code 418 = .ok (.iload_n 3, 1) := by decide +kernel
theorem d_La_law_419 : decode code 419 = .ok (.iconst 1, 1) := by decide +kernel
theorem d_La_law_420 : decode code 420 = .ok (.iadd, 1) := by decide +kernel
theorem d_La_law_421 : decode code 421 = .ok (.iaload, 1) := by decide +kernel
theorem d_La_law_422 : decode code 422 = .ok (.invokevirtual 48, 3) := by decide +kernel
theorem d_La_law_425 : decode code 425 = .ok (.if_icmp .eq 961, 3) := by decide +kernel
theorem d_La_law_428 : decode code 428 = .ok (.iconst 0, 1) := by decide +kernel
theorem d_La_law_429 : decode code 429 = .ok (.ireturn, 1) := by decide +kernel
theorem d_La_law_430 : decode code 430 = .ok (.aload_n 1, 1) := by decide +kernel
theorem d_La_law_431 : decode code 431 = .ok (.aload_n 0, 1) := by decide +kernel
theorem d_La_law_432 : decode code 432 = .ok (.iload_n 3, 1) := by decide +kernel
theorem d_La_law_433 : decode code 433 = .ok (.iconst 1, 1) := by decide +kernel
theorem d_La_law_434 : decode code 434 = .ok (.iadd, 1) := by decide +kernel
theorem d_La_law_435 : decode code 435 = .ok (.iaload, 1) := by decide +kernel
theorem d_La_law_436 : decode code 436 = .ok (.invokevirtual 49, 3) := by decide +kernel
theorem d_La_law_439 : decode code 439 = .ok (.aload_n 2, 1) := by decide +kernel
theorem d_La_law_440 : decode code 440 = .ok (.aload_n 0, 1) := by decide +kernel
theorem d_La_law_441 : decode code 441 = .ok (.iload_n 3, 1) := by decide +kernel
theorem d_La_law_442 : decode code 442 = .ok (.iconst 1, 1) := by decide +kernel
theorem d_La_law_443 : decode code 443 = .ok (.iadd, 1) := by decide +kernel
theorem d_La_law_444 : decode code 444 = .ok (.iaload, 1) := by decide +kernel
theorem d_La_law_445 : decode code 445 = .ok (.invokevirtual 52, 3) := by decide +kernel
theorem d_La_law_448 : decode code 448 = .ok (.if_icmp .eq 938, 3) := by decide +kernel
theorem d_La_law_451 : decode code 451 = .ok (.iconst 0, 1) := by decide +kernel
theorem d_La_law_452 : decode code 452 = .ok (.ireturn, 1) := by decide +kernel
theorem d_La_law_453 : decode code 453 = .ok (.aload_n 1, 1) := by decide +kernel
theorem d_La_law_454 : decode code 454 = .ok (.aload_n 0, 1) := by decide +kernel
theorem d_La_law_455 : decode code 455 = .ok (.iload_n 3, 1) := by decide +kernel
theorem d_La_law_456 : decode code 456 = .ok (.iconst 1, 1) := by decide +kernel
theorem d_La_law_457 : decode code 457 = .ok (.iadd, 1) := by decide +kernel
theorem d_La_law_458 : decode code 458 = .ok (.iaload, 1) := by decide +kernel
theorem d_La_law_459 : decode code 459 = .ok (.invokevirtual 53, 3) := by decide +kernel
theorem d_La_law_462 : decode code 462 = .ok (.aload_n 2, 1) := by decide +kernel
theorem d_La_law_463 : decode code 463 = .ok (.aload_n 0, 1) := by decide +kernel
theorem d_La_law_464 : decode code 464 = .ok (.iload_n 3, 1) := by decide +kernel
theorem d_La_law_465 : decode code 465 = .ok (.iconst 1, 1) := by decide +kernel
theorem d_La_law_466 : decode code 466 = .ok (.iadd, 1) := by decide +kernel
theorem d_La_law_467 : decode code 467 = .ok (.iaload, 1) := by decide +kernel
theorem d_La_law_468 : decode code 468 = .ok (.invokevirtual 56, 3) := by decide +kernel
theorem d_La_law_471 : decode code 471 = .ok (.if_icmp .eq 915, 3) := by decide +kernel
theorem d_La_law_474 : decode code 474 = .ok (.iconst 0, 1) := by decide +kernel
theorem d_La_law_475 : decode code 475 = .ok (.ireturn, 1) := by decide +kernel
theorem d_La_law_476 : decode code 476 = .ok (.aload_n 1, 1) := by decide +kernel
theorem d_La_law_477 : decode code 477 = .ok (.aload_n 0, 1) := by decide +kernel
theorem d_La_law_478 : decode code 478 = .ok (.iload_n 3, 1) := by decide +kernel
theorem d_La_law_479 : decode code 479 = .ok (.iconst 1, 1) := by decide +kernel
theorem d_La_law_480 : decode code 480 = .ok (.iadd, 1) := by decide +kernel
theorem d_La_law_481 : decode code 481 = .ok (.iaload, 1) := by decide +kernel
theorem d_La_law_482 : decode code 482 = .ok (.aload_n 0, 1) := by decide +kernel
theorem d_La_law_483 : decode code 483 = .ok (.iload_n 3, 1) := by decide +kernel
theorem d_La_law_484 : decode code 484 = .ok (.iconst 2, 1) := by decide +kernel
theorem d_La_law_485 : decode code 485 = .ok (.iadd, 1) := by decide +kernel
theorem d_La_law_486 : decode code 486 = .ok (.iaload, 1) := by decide +kernel
theorem d_La_law_487 : decode code 487 = .ok (.aload_n 0, 1) := by decide +kernel
theorem d_La_law_488 : decode code 488 = .ok (.iload_n 3, 1) := by decide +kernel
theorem d_La_law_489 : decode code 489 = .ok (.iconst 3, 1) := by decide +kernel
theorem d_La_law_490 : decode code 490 = .ok (.iadd, 1) := by decide +kernel
theorem d_La_law_491 : decode code 491 = .ok (.iaload, 1) := by decide +kernel
theorem d_La_law_492 : decode code 492 = .ok (.invokevirtual 57, 3) := by decide +kernel
theorem d_La_law_495 : decode code 495 = .ok (.aload_n 2, 1) := by decide +kernel
theorem d_La_law_496 : decode code 496 = .ok (.aload_n 0, 1) := by decide +kernel
theorem d_La_law_497 : decode code 497 = .ok (.iload_n 3, 1) := by decide +kernel
theorem d_La_law_498 : decode code 498 = .ok (.iconst 1, 1) := by decide +kernel
theorem d_La_law_499 : decode code 499 = .ok (.iadd, 1) := by decide +kernel
theorem d_La_law_500 : decode code 500 = .ok (.iaload, 1) := by decide +kernel
theorem d_La_law_501 : decode code 501 = .ok (.aload_n 0, 1) := by decide +kernel
theorem d_La_law_502 : decode code 502 = .ok (.iload_n 3, 1) := by decide +kernel
theorem d_La_law_503 : decode code 503 = .ok (.iconst 2, 1) := by decide +kernel
theorem d_La_law_504 : decode code 504 = .ok (.iadd, 1) := by decide +kernel
theorem d_La_law_505 : decode code 505 = .ok (.iaload, 1) := by decide +kernel
theorem d_La_law_506 : decode code 506 = .ok (.aload_n 0, 1) := by decide +kernel
theorem d_La_law_507 : decode code 507 = .ok (.iload_n 3, 1) := by decide +kernel
theorem d_La_law_508 : decode code 508 = .ok (.iconst 3, 1) := by decide +kernel
theorem d_La_law_509 : decode code 509 = .ok (.iadd, 1) := by decide +kernel
theorem d_La_law_510 : decode code 510 = .ok (.iaload, 1) := by decide +kernel
theorem d_La_law_511 : decode code 511 = .ok (.invokevirtual 60, 3) := by decide +kernel
theorem d_La_law_514 : decode code 514 = .ok (.if_icmp .eq 872, 3) := by decide +kernel
theorem d_La_law_517 : decode code 517 = .ok (.iconst 0, 1) := by decide +kernel
theorem d_La_law_518 : decode code 518 = .ok (.ireturn, 1) := by decide +kernel
theorem d_La_law_519 : decode code 519 = .ok (.aload_n 1, 1) := by decide +kernel
theorem d_La_law_520 : decode code 520 = .ok (.aload_n 0, 1) := by decide +kernel
theorem d_La_law_521 : decode code 521 = .ok (.iload_n 3, 1) := by decide +kernel
theorem d_La_law_522 : decode code 522 = .ok (.iconst 1, 1) := by decide +kernel
theorem d_La_law_523 : decode code 523 = .ok (.iadd, 1) := by decide +kernel
theorem d_La_law_524 : decode code 524 = .ok (.iaload, 1) := by decide +kernel
theorem d_La_law_525 : decode code 525 = .ok (.invokevirtual 61, 3) := by decide +kernel
theorem d_La_law_528 : decode code 528 = .ok (.aload_n 2, 1) := by decide +kernel
theorem d_La_law_529 : decode code 529 = .ok (.aload_n 0, 1) := by decide +kernel
theorem d_La_law_530 : decode code 530 = .ok (.iload_n 3, 1) := by decide +kernel
theorem d_La_law_531 : decode code 531 = .ok (.iconst 1, 1) := by decide +kernel
theorem d_La_law_532 : decode code 532 = .ok (.iadd, 1) := by decide +kernel
theorem d_La_law_533 : decode code 533 = .ok (.iaload, 1) := by decide +kernel
theorem d_La_law_534 : decode code 534 = .ok (.invokevirtual 64, 3) := by decide +kernel
theorem d_La_law_537 : decode code 537 = .ok (.if_icmp .eq 849, 3) := by decide +kernel
theorem d_La_law_540 : decode code 540 = .ok (.iconst 0, 1) := by decide +kernel
theorem d_La_law_541 : decode code 541 = .ok (.ireturn, 1) := by decide +kernel
theorem d_La_law_542 : decode code 542 = .ok (.aload_n 1, 1) := by decide +kernel
theorem d_La_law_543 : decode code 543 = .ok (.aload_n 0, 1) := by decide +kernel
theorem d_La_law_544 : decode code 544 = .ok (.iload_n 3, 1) := by decide +kernel
theorem d_La_law_545 : decode code 545 = .ok (.iconst 1, 1) := by decide +kernel
theorem d_La_law_546 : decode code 546 = .ok (.iadd, 1) := by decide +kernel
theorem d_La_law_547 : decode code 547 = .ok (.iaload, 1) := by decide +kernel
theorem d_La_law_548 : decode code 548 = .ok (.aload_n 0, 1) := by decide +kernel
theorem d_La_law_549 : decode code 549 = .ok (.iload_n 3, 1) := by decide +kernel
theorem d_La_law_550 : decode code 550 = .ok (.iconst 2, 1) := by decide +kernel
theorem d_La_law_551 : decode code 551 = .ok (.iadd, 1) := by decide +kernel
theorem d_La_law_552 : decode code 552 = .ok (.iaload, 1) := by decide +kernel
theorem d_La_law_553 : decode code 553 = .ok (.invokevirtual 65, 3) := by decide +kernel
theorem d_La_law_556 : decode code 556 = .ok (.aload_n 2, 1) := by decide +kernel
theorem d_La_law_557 : decode code 557 = .ok (.aload_n 0, 1) := by decide +kernel
theorem d_La_law_558 : decode code 558 = .ok (.iload_n 3, 1) := by decide +kernel
theorem d_La_law_559 : decode code 559 = .ok (.iconst 1, 1) := by decide +kernel
theorem d_La_law_560 : decode code 560 = .ok (.iadd, 1) := by decide +kernel
theorem d_La_law_561 : decode code 561 = .ok (.iaload, 1) := by decide +kernel
theorem d_La_law_562 : decode code 562 = .ok (.aload_n 0, 1) := by decide +kernel
theorem d_La_law_563 : decode code 563 = .ok (.iload_n 3, 1) := by decide +kernel
theorem d_La_law_564 : decode code 564 = .ok (.iconst 2, 1) := by decide +kernel
theorem d_La_law_565 : decode code 565 = .ok (.iadd, 1) := by decide +kernel
theorem d_La_law_566 : decode code 566 = .ok (.iaload, 1) := by decide +kernel
theorem d_La_law_567 : decode code 567 = .ok (.invokevirtual 68, 3) := by decide +kernel
theorem d_La_law_570 : decode code 570 = .ok (.if_icmp .eq 816, 3) := by decide +kernel
theorem d_La_law_573 : decode code 573 = .ok (.iconst 0, 1) := by decide +kernel
theorem d_La_law_574 : decode code 574 = .ok (.ireturn, 1) := by decide +kernel
theorem d_La_law_575 : decode code 575 = .ok (.aload_n 1, 1) := by decide +kernel
theorem d_La_law_576 : decode code 576 = .ok (.invokevirtual 69, 3) := by decide +kernel
theorem d_La_law_579 : decode code 579 = .ok (.aload_n 2, 1) := by decide +kernel
theorem d_La_law_580 : decode code 580 = .ok (.invokevirtual 72, 3) := by decide +kernel
theorem d_La_law_583 : decode code 583 = .ok (.if_icmp .eq 803, 3) := by decide +kernel
theorem d_La_law_586 : decode code 586 = .ok (.iconst 0, 1) := by decide +kernel
theorem d_La_law_587 : decode code 587 = .ok (.ireturn, 1) := by decide +kernel
theorem d_La_law_588 : decode code 588 = .ok (.aload_n 1, 1) := by decide +kernel
theorem d_La_law_589 : decode code 589 = .ok (.aload_n 0, 1) := by decide +kernel
theorem d_La_law_590 : decode code 590 = .ok (.iload_n 3, 1) := by decide +kernel
theorem d_La_law_591 : decode code 591 = .ok (.iconst 1, 1) := by decide +kernel
theorem d_La_law_592 : decode code 592 = .ok (.iadd, 1) := by decide +kernel
theorem d_La_law_593 : decode code 593 = .ok (.iaload, 1) := by decide +kernel
theorem d_La_law_594 : decode code 594 = .ok (.aload_n 0, 1) := by decide +kernel
theorem d_La_law_595 : decode code 595 = .ok (.iload_n 3, 1) := by decide +kernel
theorem d_La_law_596 : decode code 596 = .ok (.iconst 2, 1) := by decide +kernel
theorem d_La_law_597 : decode code 597 = .ok (.iadd, 1) := by decide +kernel
theorem d_La_law_598 : decode code 598 = .ok (.iaload, 1) := by decide +kernel
theorem d_La_law_599 : decode code 599 = .ok (.invokevirtual 73, 3) := by decide +kernel
theorem d_La_law_602 : decode code 602 = .ok (.aload_n 2, 1) := by decide +kernel
theorem d_La_law_603 : decode code 603 = .ok (.aload_n 0, 1) := by decide +kernel
theorem d_La_law_604 : decode code 604 = .ok (.iload_n 3, 1) := by decide +kernel
theorem d_La_law_605 : decode code 605 = .ok (.iconst 1, 1) := by decide +kernel
theorem d_La_law_606 : decode code 606 = .ok (.iadd, 1) := by decide +kernel
theorem d_La_law_607 : decode code 607 = .ok (.iaload, 1) := by decide +kernel
theorem d_La_law_608 : decode code 608 = .ok (.aload_n 0, 1) := by decide +kernel
theorem d_La_law_609 : decode code 609 = .ok (.iload_n 3, 1) := by decide +kernel
theorem d_La_law_610 : decode code 610 = .ok (.iconst 2, 1) := by decide +kernel
theorem d_La_law_611 : decode code 611 = .ok (.iadd, 1) := by decide +kernel
theorem d_La_law_612 : decode code 612 = .ok (.iaload, 1) := by decide +kernel
theorem d_La_law_613 : decode code 613 = .ok (.invokevirtual 76, 3) := by decide +kernel
theorem d_La_law_616 : decode code 616 = .ok (.if_icmp .eq 770, 3) := by decide +kernel
theorem d_La_law_619 : decode code 619 = .ok (.iconst 0, 1) := by decide +kernel
theorem d_La_law_620 : decode code 620 = .ok (.ireturn, 1) := by decide +kernel
theorem d_La_law_621 : decode code 621 = .ok (.aload_n 1, 1) := by decide +kernel
theorem d_La_law_622 : decode code 622 = .ok (.aload_n 0, 1) := by decide +kernel
theorem d_La_law_623 : decode code 623 = .ok (.iload_n 3, 1) := by decide +kernel
theorem d_La_law_624 : decode code 624 = .ok (.iconst 1, 1) := by decide +kernel
theorem d_La_law_625 : decode code 625 = .ok (.iadd, 1) := by decide +kernel
theorem d_La_law_626 : decode code 626 = .ok (.iaload, 1) := by decide +kernel
theorem d_La_law_627 : decode code 627 = .ok (.aload_n 0, 1) := by decide +kernel
theorem d_La_law_628 : decode code 628 = .ok (.iload_n 3, 1) := by decide +kernel
theorem d_La_law_629 : decode code 629 = .ok (.iconst 2, 1) := by decide +kernel
theorem d_La_law_630 : decode code 630 = .ok (.iadd, 1) := by decide +kernel
theorem d_La_law_631 : decode code 631 = .ok (.iaload, 1) := by decide +kernel
theorem d_La_law_632 : decode code 632 = .ok (.aload_n 0, 1) := by decide +kernel
theorem d_La_law_633 : decode code 633 = .ok (.iload_n 3, 1) := by decide +kernel
theorem d_La_law_634 : decode code 634 = .ok (.iconst 3, 1) := by decide +kernel
theorem d_La_law_635 : decode code 635 = .ok (.iadd, 1) := by decide +kernel
theorem d_La_law_636 : decode code 636 = .ok (.iaload, 1) := by decide +kernel
theorem d_La_law_637 : decode code 637 = .ok (.invokevirtual 77, 3) := by decide +kernel
theorem d_La_law_640 : decode code 640 = .ok (.aload_n 2, 1) := by decide +kernel
theorem d_La_law_641 : decode code 641 = .ok (.aload_n 0, 1) := by decide +kernel
theorem d_La_law_642 : decode code 642 = .ok (.iload_n 3, 1) := by decide +kernel
theorem d_La_law_643 : decode code 643 = .ok (.iconst 1, 1) := by decide +kernel
theorem d_La_law_644 : decode code 644 = .ok (.iadd, 1) := by decide +kernel
theorem d_La_law_645 : decode code 645 = .ok (.iaload, 1) := by decide +kernel
theorem d_La_law_646 : decode code 646 = .ok (.aload_n 0, 1) := by decide +kernel
theorem d_La_law_647 : decode code 647 = .ok (.iload_n 3, 1) := by decide +kernel
theorem d_La_law_648 : decode code 648 = .ok (.iconst 2, 1) := by decide +kernel
theorem d_La_law_649 : decode code 649 = .ok (.iadd, 1) := by decide +kernel
theorem d_La_law_650 : decode code 650 = .ok (.iaload, 1) := by decide +kernel
theorem d_La_law_651 : decode code 651 = .ok (.aload_n 0, 1) := by decide +kernel
theorem d_La_law_652 : decode code 652 = .ok (.iload_n 3, 1) := by decide +kernel
theorem d_La_law_653 : decode code 653 = .ok (.iconst 3, 1) := by decide +kernel
theorem d_La_law_654 : decode code 654 = .ok (.iadd, 1) := by decide +kernel
theorem d_La_law_655 : decode code 655 = .ok (.iaload, 1) := by decide +kernel
theorem d_La_law_656 : decode code 656 = .ok (.invokevirtual 80, 3) := by decide +kernel
theorem d_La_law_659 : decode code 659 = .ok (.if_icmp .eq 727, 3) := by decide +kernel
theorem d_La_law_662 : decode code 662 = .ok (.iconst 0, 1) := by decide +kernel
theorem d_La_law_663 : decode code 663 = .ok (.ireturn, 1) := by decide +kernel
theorem d_La_law_664 : decode code 664 = .ok (.aload_n 1, 1) := by decide +kernel
theorem d_La_law_665 : decode code 665 = .ok (.aload_n 0, 1) := by decide +kernel
theorem d_La_law_666 : decode code 666 = .ok (.iload_n 3, 1) := by decide +kernel
theorem d_La_law_667 : decode code 667 = .ok (.iconst 1, 1) := by decide +kernel
theorem d_La_law_668 : decode code 668 = .ok (.iadd, 1) := by decide +kernel
theorem d_La_law_669 : decode code 669 = .ok (.iaload, 1) := by decide +kernel
theorem d_La_law_670 : decode code 670 = .ok (.aload_n 0, 1) := by decide +kernel
theorem d_La_law_671 : decode code 671 = .ok (.iload_n 3, 1) := by decide +kernel
theorem d_La_law_672 : decode code 672 = .ok (.iconst 2, 1) := by decide +kernel
theorem d_La_law_673 : decode code 673 = .ok (.iadd, 1) := by decide +kernel
theorem d_La_law_674 : decode code 674 = .ok (.iaload, 1) := by decide +kernel
theorem d_La_law_675 : decode code 675 = .ok (.invokevirtual 81, 3) := by decide +kernel
theorem d_La_law_678 : decode code 678 = .ok (.aload_n 2, 1) := by decide +kernel
theorem d_La_law_679 : decode code 679 = .ok (.aload_n 0, 1) := by decide +kernel
theorem d_La_law_680 : decode code 680 = .ok (.iload_n 3, 1) := by decide +kernel
theorem d_La_law_681 : decode code 681 = .ok (.iconst 1, 1) := by decide +kernel
theorem d_La_law_682 : decode code 682 = .ok (.iadd, 1) := by decide +kernel
theorem d_La_law_683 : decode code 683 = .ok (.iaload, 1) := by decide +kernel
theorem d_La_law_684 : decode code 684 = .ok (.aload_n 0, 1) := by decide +kernel
theorem d_La_law_685 : decode code 685 = .ok (.iload_n 3, 1) := by decide +kernel
theorem d_La_law_686 : decode code 686 = .ok (.iconst 2, 1) := by decide +kernel
theorem d_La_law_687 : decode code 687 = .ok (.iadd, 1) := by decide +kernel
theorem d_La_law_688 : decode code 688 = .ok (.iaload, 1) := by decide +kernel
theorem d_La_law_689 : decode code 689 = .ok (.invokevirtual 84, 3) := by decide +kernel
theorem d_La_law_692 : decode code 692 = .ok (.if_icmp .eq 694, 3) := by decide +kernel
theorem d_La_law_695 : decode code 695 = .ok (.iconst 0, 1) := by decide +kernel
theorem d_La_law_696 : decode code 696 = .ok (.ireturn, 1) := by decide +kernel
theorem d_La_law_697 : decode code 697 = .ok (.aload_n 1, 1) := by decide +kernel
theorem d_La_law_698 : decode code 698 = .ok (.aload_n 0, 1) := by decide +kernel
theorem d_La_law_699 : decode code 699 = .ok (.iload_n 3, 1) := by decide +kernel
theorem d_La_law_700 : decode code 700 = .ok (.iconst 1, 1) := by decide +kernel
theorem d_La_law_701 : decode code 701 = .ok (.iadd, 1) := by decide +kernel
theorem d_La_law_702 : decode code 702 = .ok (.iaload, 1) := by decide +kernel
theorem d_La_law_703 : decode code 703 = .ok (.invokevirtual 85, 3) := by decide +kernel
theorem d_La_law_706 : decode code 706 = .ok (.aload_n 2, 1) := by decide +kernel
theorem d_La_law_707 : decode code 707 = .ok (.aload_n 0, 1) := by decide +kernel
theorem d_La_law_708 : decode code 708 = .ok (.iload_n 3, 1) := by decide +kernel
theorem d_La_law_709 : decode code 709 = .ok (.iconst 1, 1) := by decide +kernel
theorem d_La_law_710 : decode code 710 = .ok (.iadd, 1) := by decide +kernel
theorem d_La_law_711 : decode code 711 = .ok (.iaload, 1) := by decide +kernel
theorem d_La_law_712 : decode code 712 = .ok (.invokevirtual 88, 3) := by decide +kernel
theorem d_La_law_715 : decode code 715 = .ok (.if_icmp .eq 671, 3) := by decide +kernel
theorem d_La_law_718 : decode code 718 = .ok (.iconst 0, 1) := by decide +kernel
theorem d_La_law_719 : decode code 719 = .ok (.ireturn, 1) := by decide +kernel
theorem d_La_law_720 : decode code 720 = .ok (.aload_n 1, 1) := by decide +kernel
theorem d_La_law_721 : decode code 721 = .ok (.aload_n 0, 1) := by decide +kernel
theorem d_La_law_722 : decode code 722 = .ok (.iload_n 3, 1) := by decide +kernel
theorem d_La_law_723 : decode code 723 = .ok (.iconst 1, 1) := by decide +kernel
theorem d_La_law_724 : decode code 724 = .ok (.iadd, 1) := by decide +kernel
theorem d_La_law_725 : decode code 725 = .ok (.iaload, 1) := by decide +kernel
theorem d_La_law_726 : decode code 726 = .ok (.aload_n 0, 1) := by decide +kernel
theorem d_La_law_727 : decode code 727 = .ok (.iload_n 3, 1) := by decide +kernel
theorem d_La_law_728 : decode code 728 = .ok (.iconst 2, 1) := by decide +kernel
theorem d_La_law_729 : decode code 729 = .ok (.iadd, 1) := by decide +kernel
theorem d_La_law_730 : decode code 730 = .ok (.iaload, 1) := by decide +kernel
theorem d_La_law_731 : decode code 731 = .ok (.aload_n 0, 1) := by decide +kernel
theorem d_La_law_732 : decode code 732 = .ok (.iload_n 3, 1) := by decide +kernel
theorem d_La_law_733 : decode code 733 = .ok (.iconst 3, 1) := by decide +kernel
theorem d_La_law_734 : decode code 734 = .ok (.iadd, 1) := by decide +kernel
theorem d_La_law_735 : decode code 735 = .ok (.iaload, 1) := by decide +kernel
theorem d_La_law_736 : decode code 736 = .ok (.invokevirtual 89, 3) := by decide +kernel
theorem d_La_law_739 : decode code 739 = .ok (.aload_n 2, 1) := by decide +kernel
theorem d_La_law_740 : decode code 740 = .ok (.aload_n 0, 1) := by decide +kernel
theorem d_La_law_741 : decode code 741 = .ok (.iload_n 3, 1) := by decide +kernel
theorem d_La_law_742 : decode code 742 = .ok (.iconst 1, 1) := by decide +kernel
theorem d_La_law_743 : decode code 743 = .ok (.iadd, 1) := by decide +kernel
theorem d_La_law_744 : decode code 744 = .ok (.iaload, 1) := by decide +kernel
theorem d_La_law_745 : decode code 745 = .ok (.aload_n 0, 1) := by decide +kernel
theorem d_La_law_746 : decode code 746 = .ok (.iload_n 3, 1) := by decide +kernel
theorem d_La_law_747 : decode code 747 = .ok (.iconst 2, 1) := by decide +kernel
theorem d_La_law_748 : decode code 748 = .ok (.iadd, 1) := by decide +kernel
theorem d_La_law_749 : decode code 749 = .ok (.iaload, 1) := by decide +kernel
theorem d_La_law_750 : decode code 750 = .ok (.aload_n 0, 1) := by decide +kernel
theorem d_La_law_751 : decode code 751 = .ok (.iload_n 3, 1) := by decide +kernel
theorem d_La_law_752 : decode code 752 = .ok (.iconst 3, 1) := by decide +kernel
theorem d_La_law_753 : decode code 753 = .ok (.iadd, 1) := by decide +kernel
theorem d_La_law_754 : decode code 754 = .ok (.iaload, 1) := by decide +kernel
theorem d_La_law_755 : decode code 755 = .ok (.invokevirtual 92, 3) := by decide +kernel
theorem d_La_law_758 : decode code 758 = .ok (.if_icmp .eq 628, 3) := by decide +kernel
theorem d_La_law_761 : decode code 761 = .ok (.iconst 0, 1) := by decide +kernel
theorem d_La_law_762 : decode code 762 = .ok (.ireturn, 1) := by decide +kernel
theorem d_La_law_763 : decode code 763 = .ok (.aload_n 1, 1) := by decide +kernel
theorem d_La_law_764 : decode code 764 = .ok (.aload_n 0, 1) := by decide +kernel
theorem d_La_law_765 : decode code 765 = .ok (.iload_n 3, 1) := by decide +kernel
theorem d_La_law_766 : decode code 766 = .ok (.iconst 1, 1) := by decide +kernel
theorem d_La_law_767 : decode code 767 = .ok (.iadd, 1) := by decide +kernel
theorem d_La_law_768 : decode code 768 = .ok (.iaload, 1) := by decide +kernel
theorem d_La_law_769 : decode code 769 = .ok (.aload_n 0, 1) := by decide +kernel
theorem d_La_law_770 : decode code 770 = .ok (.iload_n 3, 1) := by decide +kernel
theorem d_La_law_771 : decode code 771 = .ok (.iconst 2, 1) := by decide +kernel
theorem d_La_law_772 : decode code 772 = .ok (.iadd, 1) := by decide +kernel
theorem d_La_law_773 : decode code 773 = .ok (.iaload, 1) := by decide +kernel
theorem d_La_law_774 : decode code 774 = .ok (.invokevirtual 93, 3) := by decide +kernel
theorem d_La_law_777 : decode code 777 = .ok (.aload_n 2, 1) := by decide +kernel
theorem d_La_law_778 : decode code 778 = .ok (.aload_n 0, 1) := by decide +kernel
theorem d_La_law_779 : decode code 779 = .ok (.iload_n 3, 1) := by decide +kernel
