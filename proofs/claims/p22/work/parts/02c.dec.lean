theorem dX7_init_190 : decode cX7_init 190 = .ok (.dup, 1) := by decide +kernel
theorem dX7_init_191 : decode cX7_init 191 = .ok (.bipush 26, 2) := by decide +kernel
theorem dX7_init_193 : decode cX7_init 193 = .ok (.bipush 111, 2) := by decide +kernel
theorem dX7_init_195 : decode cX7_init 195 = .ok (.castore, 1) := by decide +kernel
theorem dX7_init_196 : decode cX7_init 196 = .ok (.dup, 1) := by decide +kernel
theorem dX7_init_197 : decode cX7_init 197 = .ok (.bipush 27, 2) := by decide +kernel
theorem dX7_init_199 : decode cX7_init 199 = .ok (.bipush 114, 2) := by decide +kernel
theorem dX7_init_201 : decode cX7_init 201 = .ok (.castore, 1) := by decide +kernel
theorem dX7_init_202 : decode cX7_init 202 = .ok (.dup, 1) := by decide +kernel
theorem dX7_init_203 : decode cX7_init 203 = .ok (.bipush 28, 2) := by decide +kernel
theorem dX7_init_205 : decode cX7_init 205 = .ok (.bipush 32, 2) := by decide +kernel
theorem dX7_init_207 : decode cX7_init 207 = .ok (.castore, 1) := by decide +kernel
theorem dX7_init_208 : decode cX7_init 208 = .ok (.dup, 1) := by decide +kernel
theorem dX7_init_209 : decode cX7_init 209 = .ok (.bipush 29, 2) := by decide +kernel
theorem dX7_init_211 : decode cX7_init 211 = .ok (.bipush 98, 2) := by decide +kernel
theorem dX7_init_213 : decode cX7_init 213 = .ok (.castore, 1) := by decide +kernel
theorem dX7_init_214 : decode cX7_init 214 = .ok (.dup, 1) := by decide +kernel
theorem dX7_init_215 : decode cX7_init 215 = .ok (.bipush 30, 2) := by decide +kernel
theorem dX7_init_217 : decode cX7_init 217 = .ok (.bipush 117, 2) := by decide +kernel
theorem dX7_init_219 : decode cX7_init 219 = .ok (.castore, 1) := by decide +kernel
theorem dX7_init_220 : decode cX7_init 220 = .ok (.dup, 1) := by decide +kernel
theorem dX7_init_221 : decode cX7_init 221 = .ok (.bipush 31, 2) := by decide +kernel
theorem dX7_init_223 : decode cX7_init 223 = .ok (.bipush 116, 2) := by decide +kernel
theorem dX7_init_225 : decode cX7_init 225 = .ok (.castore, 1) := by decide +kernel
theorem dX7_init_226 : decode cX7_init 226 = .ok (.dup, 1) := by decide +kernel
theorem dX7_init_227 : decode cX7_init 227 = .ok (.bipush 32, 2) := by decide +kernel
theorem dX7_init_229 : decode cX7_init 229 = .ok (.bipush 32, 2) := by decide +kernel
theorem dX7_init_231 : decode cX7_init 231 = .ok (.castore, 1) := by decide +kernel
theorem dX7_init_232 : decode cX7_init 232 = .ok (.dup, 1) := by decide +kernel
theorem dX7_init_233 : decode cX7_init 233 = .ok (.bipush 33, 2) := by decide +kernel
theorem dX7_init_235 : decode cX7_init 235 = .ok (.bipush 115, 2) := by decide +kernel
theorem dX7_init_237 : decode cX7_init 237 = .ok (.castore, 1) := by decide +kernel
theorem dX7_init_238 : decode cX7_init 238 = .ok (.dup, 1) := by decide +kernel
theorem dX7_init_239 : decode cX7_init 239 = .ok (.bipush 34, 2) := by decide +kernel
theorem dX7_init_241 : decode cX7_init 241 = .ok (.bipush 117, 2) := by decide +kernel
theorem dX7_init_243 : decode cX7_init 243 = .ok (.castore, 1) := by decide +kernel
theorem dX7_init_244 : decode cX7_init 244 = .ok (.dup, 1) := by decide +kernel
theorem dX7_init_245 : decode cX7_init 245 = .ok (.bipush 35, 2) := by decide +kernel
theorem dX7_init_247 : decode cX7_init 247 = .ok (.bipush 109, 2) := by decide +kernel
theorem dX7_init_249 : decode cX7_init 249 = .ok (.castore, 1) := by decide +kernel
theorem dX7_init_250 : decode cX7_init 250 = .ok (.dup, 1) := by decide +kernel
theorem dX7_init_251 : decode cX7_init 251 = .ok (.bipush 36, 2) := by decide +kernel
theorem dX7_init_253 : decode cX7_init 253 = .ok (.bipush 32, 2) := by decide +kernel
theorem dX7_init_255 : decode cX7_init 255 = .ok (.castore, 1) := by decide +kernel
theorem dX7_init_256 : decode cX7_init 256 = .ok (.dup, 1) := by decide +kernel
theorem dX7_init_257 : decode cX7_init 257 = .ok (.bipush 37, 2) := by decide +kernel
theorem dX7_init_259 : decode cX7_init 259 = .ok (.bipush 112, 2) := by decide +kernel
theorem dX7_init_261 : decode cX7_init 261 = .ok (.castore, 1) := by decide +kernel
theorem dX7_init_262 : decode cX7_init 262 = .ok (.dup, 1) := by decide +kernel
theorem dX7_init_263 : decode cX7_init 263 = .ok (.bipush 38, 2) := by decide +kernel
theorem dX7_init_265 : decode cX7_init 265 = .ok (.bipush 114, 2) := by decide +kernel
theorem dX7_init_267 : decode cX7_init 267 = .ok (.castore, 1) := by decide +kernel
theorem dX7_init_268 : decode cX7_init 268 = .ok (.dup, 1) := by decide +kernel
theorem dX7_init_269 : decode cX7_init 269 = .ok (.bipush 39, 2) := by decide +kernel
theorem dX7_init_271 : decode cX7_init 271 = .ok (.bipush 111, 2) := by decide +kernel
theorem dX7_init_273 : decode cX7_init 273 = .ok (.castore, 1) := by decide +kernel
theorem dX7_init_274 : decode cX7_init 274 = .ok (.dup, 1) := by decide +kernel
theorem dX7_init_275 : decode cX7_init 275 = .ok (.bipush 40, 2) := by decide +kernel
theorem dX7_init_277 : decode cX7_init 277 = .ok (.bipush 100, 2) := by decide +kernel
theorem dX7_init_279 : decode cX7_init 279 = .ok (.castore, 1) := by decide +kernel
theorem dX7_init_280 : decode cX7_init 280 = .ok (.dup, 1) := by decide +kernel
theorem dX7_init_281 : decode cX7_init 281 = .ok (.bipush 41, 2) := by decide +kernel
theorem dX7_init_283 : decode cX7_init 283 = .ok (.bipush 117, 2) := by decide +kernel
theorem dX7_init_285 : decode cX7_init 285 = .ok (.castore, 1) := by decide +kernel
theorem dX7_init_286 : decode cX7_init 286 = .ok (.dup, 1) := by decide +kernel
theorem dX7_init_287 : decode cX7_init 287 = .ok (.bipush 42, 2) := by decide +kernel
theorem dX7_init_289 : decode cX7_init 289 = .ok (.bipush 99, 2) := by decide +kernel
theorem dX7_init_291 : decode cX7_init 291 = .ok (.castore, 1) := by decide +kernel
theorem dX7_init_292 : decode cX7_init 292 = .ok (.dup, 1) := by decide +kernel
theorem dX7_init_293 : decode cX7_init 293 = .ok (.bipush 43, 2) := by decide +kernel
theorem dX7_init_295 : decode cX7_init 295 = .ok (.bipush 116, 2) := by decide +kernel
theorem dX7_init_297 : decode cX7_init 297 = .ok (.castore, 1) := by decide +kernel
theorem dX7_init_298 : decode cX7_init 298 = .ok (.dup, 1) := by decide +kernel
theorem dX7_init_299 : decode cX7_init 299 = .ok (.bipush 44, 2) := by decide +kernel
theorem dX7_init_301 : decode cX7_init 301 = .ok (.bipush 32, 2) := by decide +kernel
theorem dX7_init_303 : decode cX7_init 303 = .ok (.castore, 1) := by decide +kernel
theorem dX7_init_304 : decode cX7_init 304 = .ok (.dup, 1) := by decide +kernel
theorem dX7_init_305 : decode cX7_init 305 = .ok (.bipush 45, 2) := by decide +kernel
theorem dX7_init_307 : decode cX7_init 307 = .ok (.bipush 115, 2) := by decide +kernel
theorem dX7_init_309 : decode cX7_init 309 = .ok (.castore, 1) := by decide +kernel
theorem dX7_init_310 : decode cX7_init 310 = .ok (.dup, 1) := by decide +kernel
theorem dX7_init_311 : decode cX7_init 311 = .ok (.bipush 46, 2) := by decide +kernel
theorem dX7_init_313 : decode cX7_init 313 = .ok (.bipush 113, 2) := by decide +kernel
theorem dX7_init_315 : decode cX7_init 315 = .ok (.castore, 1) := by decide +kernel
theorem dX7_init_316 : decode cX7_init 316 = .ok (.dup, 1) := by decide +kernel
theorem dX7_init_317 : decode cX7_init 317 = .ok (.bipush 47, 2) := by decide +kernel
theorem dX7_init_319 : decode cX7_init 319 = .ok (.bipush 117, 2) := by decide +kernel
theorem dX7_init_321 : decode cX7_init 321 = .ok (.castore, 1) := by decide +kernel
theorem dX7_init_322 : decode cX7_init 322 = .ok (.dup, 1) := by decide +kernel
theorem dX7_init_323 : decode cX7_init 323 = .ok (.bipush 48, 2) := by decide +kernel
theorem dX7_init_325 : decode cX7_init 325 = .ok (.bipush 97, 2) := by decide +kernel
theorem dX7_init_327 : decode cX7_init 327 = .ok (.castore, 1) := by decide +kernel
theorem dX7_init_328 : decode cX7_init 328 = .ok (.dup, 1) := by decide +kernel
theorem dX7_init_329 : decode cX7_init 329 = .ok (.bipush 49, 2) := by decide +kernel
theorem dX7_init_331 : decode cX7_init 331 = .ok (.bipush 114, 2) := by decide +kernel
theorem dX7_init_333 : decode cX7_init 333 = .ok (.castore, 1) := by decide +kernel
theorem dX7_init_334 : decode cX7_init 334 = .ok (.dup, 1) := by decide +kernel
theorem dX7_init_335 : decode cX7_init 335 = .ok (.bipush 50, 2) := by decide +kernel
theorem dX7_init_337 : decode cX7_init 337 = .ok (.bipush 101, 2) := by decide +kernel
theorem dX7_init_339 : decode cX7_init 339 = .ok (.castore, 1) := by decide +kernel
theorem dX7_init_340 : decode cX7_init 340 = .ok (.dup, 1) := by decide +kernel
theorem dX7_init_341 : decode cX7_init 341 = .ok (.bipush 51, 2) := by decide +kernel
theorem dX7_init_343 : decode cX7_init 343 = .ok (.bipush 32, 2) := by decide +kernel
theorem dX7_init_345 : decode cX7_init 345 = .ok (.castore, 1) := by decide +kernel
theorem dX7_init_346 : decode cX7_init 346 = .ok (.dup, 1) := by decide +kernel
theorem dX7_init_347 : decode cX7_init 347 = .ok (.bipush 52, 2) := by decide +kernel
theorem dX7_init_349 : decode cX7_init 349 = .ok (.bipush 116, 2) := by decide +kernel
theorem dX7_init_351 : decode cX7_init 351 = .ok (.castore, 1) := by decide +kernel
theorem dX7_init_352 : decode cX7_init 352 = .ok (.dup, 1) := by decide +kernel
theorem dX7_init_353 : decode cX7_init 353 = .ok (.bipush 53, 2) := by decide +kernel
theorem dX7_init_355 : decode cX7_init 355 = .ok (.bipush 114, 2) := by decide +kernel
theorem dX7_init_357 : decode cX7_init 357 = .ok (.castore, 1) := by decide +kernel
theorem dX7_init_358 : decode cX7_init 358 = .ok (.dup, 1) := by decide +kernel
theorem dX7_init_359 : decode cX7_init 359 = .ok (.bipush 54, 2) := by decide +kernel
theorem dX7_init_361 : decode cX7_init 361 = .ok (.bipush 105, 2) := by decide +kernel
theorem dX7_init_363 : decode cX7_init 363 = .ok (.castore, 1) := by decide +kernel
theorem dX7_init_364 : decode cX7_init 364 = .ok (.dup, 1) := by decide +kernel
theorem dX7_init_365 : decode cX7_init 365 = .ok (.bipush 55, 2) := by decide +kernel
theorem dX7_init_367 : decode cX7_init 367 = .ok (.bipush 112, 2) := by decide +kernel
theorem dX7_init_369 : decode cX7_init 369 = .ok (.castore, 1) := by decide +kernel
theorem dX7_init_370 : decode cX7_init 370 = .ok (.dup, 1) := by decide +kernel
theorem dX7_init_371 : decode cX7_init 371 = .ok (.bipush 56, 2) := by decide +kernel
theorem dX7_init_373 : decode cX7_init 373 = .ok (.bipush 108, 2) := by decide +kernel
theorem dX7_init_375 : decode cX7_init 375 = .ok (.castore, 1) := by decide +kernel
theorem dX7_init_376 : decode cX7_init 376 = .ok (.dup, 1) := by decide +kernel
theorem dX7_init_377 : decode cX7_init 377 = .ok (.bipush 57, 2) := by decide +kernel
theorem dX7_init_379 : decode cX7_init 379 = .ok (.bipush 101, 2) := by decide +kernel
theorem dX7_init_381 : decode cX7_init 381 = .ok (.castore, 1) := by decide +kernel
theorem dX7_init_382 : decode cX7_init 382 = .ok (.dup, 1) := by decide +kernel
theorem dX7_init_383 : decode cX7_init 383 = .ok (.bipush 58, 2) := by decide +kernel
theorem dX7_init_385 : decode cX7_init 385 = .ok (.bipush 32, 2) := by decide +kernel
theorem dX7_init_387 : decode cX7_init 387 = .ok (.castore, 1) := by decide +kernel
theorem dX7_init_388 : decode cX7_init 388 = .ok (.dup, 1) := by decide +kernel
theorem dX7_init_389 : decode cX7_init 389 = .ok (.bipush 59, 2) := by decide +kernel
theorem dX7_init_391 : decode cX7_init 391 = .ok (.bipush 105, 2) := by decide +kernel
theorem dX7_init_393 : decode cX7_init 393 = .ok (.castore, 1) := by decide +kernel
theorem dX7_init_394 : decode cX7_init 394 = .ok (.dup, 1) := by decide +kernel
theorem dX7_init_395 : decode cX7_init 395 = .ok (.bipush 60, 2) := by decide +kernel
theorem dX7_init_397 : decode cX7_init 397 = .ok (.bipush 110, 2) := by decide +kernel
theorem dX7_init_399 : decode cX7_init 399 = .ok (.castore, 1) := by decide +kernel
theorem dX7_init_400 : decode cX7_init 400 = .ok (.dup, 1) := by decide +kernel
theorem dX7_init_401 : decode cX7_init 401 = .ok (.bipush 61, 2) := by decide +kernel
theorem dX7_init_403 : decode cX7_init 403 = .ok (.bipush 32, 2) := by decide +kernel
theorem dX7_init_405 : decode cX7_init 405 = .ok (.castore, 1) := by decide +kernel
theorem dX7_init_406 : decode cX7_init 406 = .ok (.dup, 1) := by decide +kernel
theorem dX7_init_407 : decode cX7_init 407 = .ok (.bipush 62, 2) := by decide +kernel
theorem dX7_init_409 : decode cX7_init 409 = .ok (.bipush 103, 2) := by decide +kernel
theorem dX7_init_411 : decode cX7_init 411 = .ok (.castore, 1) := by decide +kernel
theorem dX7_init_412 : decode cX7_init 412 = .ok (.dup, 1) := by decide +kernel
theorem dX7_init_413 : decode cX7_init 413 = .ok (.bipush 63, 2) := by decide +kernel
theorem dX7_init_415 : decode cX7_init 415 = .ok (.bipush 32, 2) := by decide +kernel
theorem dX7_init_417 : decode cX7_init 417 = .ok (.castore, 1) := by decide +kernel
theorem dX7_init_418 : decode cX7_init 418 = .ok (.dup, 1) := by decide +kernel
theorem dX7_init_419 : decode cX7_init 419 = .ok (.bipush 64, 2) := by decide +kernel
theorem dX7_init_421 : decode cX7_init 421 = .ok (.bipush 111, 2) := by decide +kernel
theorem dX7_init_423 : decode cX7_init 423 = .ok (.castore, 1) := by decide +kernel
theorem dX7_init_424 : decode cX7_init 424 = .ok (.dup, 1) := by decide +kernel
theorem dX7_init_425 : decode cX7_init 425 = .ok (.bipush 65, 2) := by decide +kernel
theorem dX7_init_427 : decode cX7_init 427 = .ok (.bipush 117, 2) := by decide +kernel
theorem dX7_init_429 : decode cX7_init 429 = .ok (.castore, 1) := by decide +kernel
theorem dX7_init_430 : decode cX7_init 430 = .ok (.dup, 1) := by decide +kernel
theorem dX7_init_431 : decode cX7_init 431 = .ok (.bipush 66, 2) := by decide +kernel
theorem dX7_init_433 : decode cX7_init 433 = .ok (.bipush 116, 2) := by decide +kernel
theorem dX7_init_435 : decode cX7_init 435 = .ok (.castore, 1) := by decide +kernel
theorem dX7_init_436 : decode cX7_init 436 = .ok (.dup, 1) := by decide +kernel
theorem dX7_init_437 : decode cX7_init 437 = .ok (.bipush 67, 2) := by decide +kernel
theorem dX7_init_439 : decode cX7_init 439 = .ok (.bipush 32, 2) := by decide +kernel
theorem dX7_init_441 : decode cX7_init 441 = .ok (.castore, 1) := by decide +kernel
theorem dX7_init_442 : decode cX7_init 442 = .ok (.dup, 1) := by decide +kernel
theorem dX7_init_443 : decode cX7_init 443 = .ok (.bipush 68, 2) := by decide +kernel
theorem dX7_init_445 : decode cX7_init 445 = .ok (.bipush 116, 2) := by decide +kernel
theorem dX7_init_447 : decode cX7_init 447 = .ok (.castore, 1) := by decide +kernel
theorem dX7_init_448 : decode cX7_init 448 = .ok (.dup, 1) := by decide +kernel
theorem dX7_init_449 : decode cX7_init 449 = .ok (.bipush 69, 2) := by decide +kernel
theorem dX7_init_451 : decode cX7_init 451 = .ok (.bipush 97, 2) := by decide +kernel
theorem dX7_init_453 : decode cX7_init 453 = .ok (.castore, 1) := by decide +kernel
theorem dX7_init_454 : decode cX7_init 454 = .ok (.dup, 1) := by decide +kernel
theorem dX7_init_455 : decode cX7_init 455 = .ok (.bipush 70, 2) := by decide +kernel
theorem dX7_init_457 : decode cX7_init 457 = .ok (.bipush 115, 2) := by decide +kernel
theorem dX7_init_459 : decode cX7_init 459 = .ok (.castore, 1) := by decide +kernel
theorem dX7_init_460 : decode cX7_init 460 = .ok (.dup, 1) := by decide +kernel
theorem dX7_init_461 : decode cX7_init 461 = .ok (.bipush 71, 2) := by decide +kernel
theorem dX7_init_463 : decode cX7_init 463 = .ok (.bipush 107, 2) := by decide +kernel
theorem dX7_init_465 : decode cX7_init 465 = .ok (.castore, 1) := by decide +kernel
theorem dX7_init_466 : decode cX7_init 466 = .ok (.dup, 1) := by decide +kernel
theorem dX7_init_467 : decode cX7_init 467 = .ok (.bipush 72, 2) := by decide +kernel
theorem dX7_init_469 : decode cX7_init 469 = .ok (.bipush 32, 2) := by decide +kernel
theorem dX7_init_471 : decode cX7_init 471 = .ok (.castore, 1) := by decide +kernel
theorem dX7_init_472 : decode cX7_init 472 = .ok (.putfield 22, 3) := by decide +kernel
theorem dX7_init_475 : decode cX7_init 475 = .ok (.aload_n 0, 1) := by decide +kernel
theorem dX7_init_476 : decode cX7_init 476 = .ok (.sipush 200, 3) := by decide +kernel
theorem dX7_init_479 : decode cX7_init 479 = .ok (.newarray .int, 2) := by decide +kernel
theorem dX7_init_481 : decode cX7_init 481 = .ok (.putfield 26, 3) := by decide +kernel
theorem dX7_init_484 : decode cX7_init 484 = .ok (.aload_n 0, 1) := by decide +kernel
theorem dX7_init_485 : decode cX7_init 485 = .ok (.sipush 200, 3) := by decide +kernel
theorem dX7_init_488 : decode cX7_init 488 = .ok (.newarray .long, 2) := by decide +kernel
theorem dX7_init_490 : decode cX7_init 490 = .ok (.putfield 29, 3) := by decide +kernel
theorem dX7_init_493 : decode cX7_init 493 = .ok (.aload_n 0, 1) := by decide +kernel
theorem dX7_init_494 : decode cX7_init 494 = .ok (.sipush 200, 3) := by decide +kernel
theorem dX7_init_497 : decode cX7_init 497 = .ok (.newarray .int, 2) := by decide +kernel
theorem dX7_init_499 : decode cX7_init 499 = .ok (.putfield 33, 3) := by decide +kernel
theorem dX7_init_502 : decode cX7_init 502 = .ok (.aload_n 0, 1) := by decide +kernel
theorem dX7_init_503 : decode cX7_init 503 = .ok (.sipush 200, 3) := by decide +kernel
theorem dX7_init_506 : decode cX7_init 506 = .ok (.newarray .long, 2) := by decide +kernel
theorem dX7_init_508 : decode cX7_init 508 = .ok (.putfield 36, 3) := by decide +kernel
theorem dX7_init_511 : decode cX7_init 511 = .ok (.return_, 1) := by decide +kernel
theorem dX7_in_0 : decode cX7_in 0 = .ok (.iload_n 0, 1) := by decide +kernel
theorem dX7_in_1 : decode cX7_in 1 = .ok (.iload_n 1, 1) := by decide +kernel
theorem dX7_in_2 : decode cX7_in 2 = .ok (.if_icmp .lt 12, 3) := by decide +kernel
theorem dX7_in_5 : decode cX7_in 5 = .ok (.iload_n 0, 1) := by decide +kernel
theorem dX7_in_6 : decode cX7_in 6 = .ok (.iload_n 2, 1) := by decide +kernel
theorem dX7_in_7 : decode cX7_in 7 = .ok (.if_icmp .gt 7, 3) := by decide +kernel
theorem dX7_in_10 : decode cX7_in 10 = .ok (.iconst 1, 1) := by decide +kernel
theorem dX7_in_11 : decode cX7_in 11 = .ok (.goto 4, 3) := by decide +kernel
theorem dX7_in_14 : decode cX7_in 14 = .ok (.iconst 0, 1) := by decide +kernel
theorem dX7_in_15 : decode cX7_in 15 = .ok (.ireturn, 1) := by decide +kernel
theorem dX7_refuses_0 : decode cX7_refuses 0 = .ok (.aload_n 0, 1) := by decide +kernel
theorem dX7_refuses_1 : decode cX7_refuses 1 = .ok (.getfield 16, 3) := by decide +kernel
theorem dX7_refuses_4 : decode cX7_refuses 4 = .ok (.bipush (-2), 2) := by decide +kernel
theorem dX7_refuses_6 : decode cX7_refuses 6 = .ok (.iload_n 1, 1) := by decide +kernel
theorem dX7_refuses_7 : decode cX7_refuses 7 = .ok (.isub, 1) := by decide +kernel
theorem dX7_refuses_8 : decode cX7_refuses 8 = .ok (.dup2, 1) := by decide +kernel
theorem dX7_refuses_9 : decode cX7_refuses 9 = .ok (.iaload, 1) := by decide +kernel
theorem dX7_refuses_10 : decode cX7_refuses 10 = .ok (.iconst 1, 1) := by decide +kernel
theorem dX7_refuses_11 : decode cX7_refuses 11 = .ok (.iadd, 1) := by decide +kernel
theorem dX7_refuses_12 : decode cX7_refuses 12 = .ok (.iastore, 1) := by decide +kernel
theorem dX7_refuses_13 : decode cX7_refuses 13 = .ok (.iload_n 1, 1) := by decide +kernel
theorem dX7_refuses_14 : decode cX7_refuses 14 = .ok (.ireturn, 1) := by decide +kernel
theorem dX7_type_0 : decode cX7_type 0 = .ok (.iload_n 1, 1) := by decide +kernel
theorem dX7_type_1 : decode cX7_type 1 = .ok (.iconst 0, 1) := by decide +kernel
theorem dX7_type_2 : decode cX7_type 2 = .ok (.bipush 127, 2) := by decide +kernel
theorem dX7_type_4 : decode cX7_type 4 = .ok (.invokestatic 39, 3) := by decide +kernel
theorem dX7_type_7 : decode cX7_type 7 = .ok (.ifCond .ne 10, 3) := by decide +kernel
theorem dX7_type_10 : decode cX7_type 10 = .ok (.aload_n 0, 1) := by decide +kernel
theorem dX7_type_11 : decode cX7_type 11 = .ok (.bipush (-2), 2) := by decide +kernel
theorem dX7_type_13 : decode cX7_type 13 = .ok (.invokevirtual 43, 3) := by decide +kernel
theorem dX7_type_16 : decode cX7_type 16 = .ok (.ireturn, 1) := by decide +kernel
theorem dX7_type_17 : decode cX7_type 17 = .ok (.aload_n 0, 1) := by decide +kernel
theorem dX7_type_18 : decode cX7_type 18 = .ok (.getfield 47, 3) := by decide +kernel
theorem dX7_type_21 : decode cX7_type 21 = .ok (.bipush 120, 2) := by decide +kernel
theorem dX7_type_23 : decode cX7_type 23 = .ok (.if_icmp .ne 10, 3) := by decide +kernel
theorem dX7_type_26 : decode cX7_type 26 = .ok (.aload_n 0, 1) := by decide +kernel
theorem dX7_type_27 : decode cX7_type 27 = .ok (.bipush (-4), 2) := by decide +kernel
theorem dX7_type_29 : decode cX7_type 29 = .ok (.invokevirtual 43, 3) := by decide +kernel
theorem dX7_type_32 : decode cX7_type 32 = .ok (.ireturn, 1) := by decide +kernel
theorem dX7_type_33 : decode cX7_type 33 = .ok (.aload_n 0, 1) := by decide +kernel
theorem dX7_type_34 : decode cX7_type 34 = .ok (.getfield 19, 3) := by decide +kernel
theorem dX7_type_37 : decode cX7_type 37 = .ok (.aload_n 0, 1) := by decide +kernel
theorem dX7_type_38 : decode cX7_type 38 = .ok (.getfield 47, 3) := by decide +kernel
theorem dX7_type_41 : decode cX7_type 41 = .ok (.iload_n 1, 1) := by decide +kernel
theorem dX7_type_42 : decode cX7_type 42 = .ok (.iastore, 1) := by decide +kernel
theorem dX7_type_43 : decode cX7_type 43 = .ok (.aload_n 0, 1) := by decide +kernel
theorem dX7_type_44 : decode cX7_type 44 = .ok (.dup, 1) := by decide +kernel
theorem dX7_type_45 : decode cX7_type 45 = .ok (.getfield 47, 3) := by decide +kernel
theorem dX7_type_48 : decode cX7_type 48 = .ok (.iconst 1, 1) := by decide +kernel
theorem dX7_type_49 : decode cX7_type 49 = .ok (.iadd, 1) := by decide +kernel
theorem dX7_type_50 : decode cX7_type 50 = .ok (.putfield 47, 3) := by decide +kernel
theorem dX7_type_53 : decode cX7_type 53 = .ok (.aload_n 0, 1) := by decide +kernel
theorem dX7_type_54 : decode cX7_type 54 = .ok (.getfield 47, 3) := by decide +kernel
theorem dX7_type_57 : decode cX7_type 57 = .ok (.ireturn, 1) := by decide +kernel
theorem dX7_clear_0 : decode cX7_clear 0 = .ok (.aload_n 0, 1) := by decide +kernel
theorem dX7_clear_1 : decode cX7_clear 1 = .ok (.getfield 47, 3) := by decide +kernel
theorem dX7_clear_4 : decode cX7_clear 4 = .ok (.istore_n 1, 1) := by decide +kernel
theorem dX7_clear_5 : decode cX7_clear 5 = .ok (.aload_n 0, 1) := by decide +kernel
theorem dX7_clear_6 : decode cX7_clear 6 = .ok (.iconst 0, 1) := by decide +kernel
theorem dX7_clear_7 : decode cX7_clear 7 = .ok (.putfield 47, 3) := by decide +kernel
theorem dX7_clear_10 : decode cX7_clear 10 = .ok (.iload_n 1, 1) := by decide +kernel
theorem dX7_clear_11 : decode cX7_clear 11 = .ok (.ireturn, 1) := by decide +kernel
theorem dX7_byteAt_0 : decode cX7_byteAt 0 = .ok (.iload_n 1, 1) := by decide +kernel
theorem dX7_byteAt_1 : decode cX7_byteAt 1 = .ok (.aload_n 0, 1) := by decide +kernel
theorem dX7_byteAt_2 : decode cX7_byteAt 2 = .ok (.getfield 47, 3) := by decide +kernel
theorem dX7_byteAt_5 : decode cX7_byteAt 5 = .ok (.if_icmp .ge 12, 3) := by decide +kernel
theorem dX7_byteAt_8 : decode cX7_byteAt 8 = .ok (.aload_n 0, 1) := by decide +kernel
theorem dX7_byteAt_9 : decode cX7_byteAt 9 = .ok (.getfield 19, 3) := by decide +kernel
theorem dX7_byteAt_12 : decode cX7_byteAt 12 = .ok (.iload_n 1, 1) := by decide +kernel
theorem dX7_byteAt_13 : decode cX7_byteAt 13 = .ok (.iaload, 1) := by decide +kernel
theorem dX7_byteAt_14 : decode cX7_byteAt 14 = .ok (.goto 4, 3) := by decide +kernel
theorem dX7_byteAt_17 : decode cX7_byteAt 17 = .ok (.iconst (-1), 1) := by decide +kernel
theorem dX7_byteAt_18 : decode cX7_byteAt 18 = .ok (.ireturn, 1) := by decide +kernel
theorem dX7_skips_0 : decode cX7_skips 0 = .ok (.aload_n 0, 1) := by decide +kernel
theorem dX7_skips_1 : decode cX7_skips 1 = .ok (.aload_n 0, 1) := by decide +kernel
theorem dX7_skips_2 : decode cX7_skips 2 = .ok (.getfield 51, 3) := by decide +kernel
theorem dX7_skips_5 : decode cX7_skips 5 = .ok (.invokevirtual 54, 3) := by decide +kernel
theorem dX7_skips_8 : decode cX7_skips 8 = .ok (.bipush 32, 2) := by decide +kernel
theorem dX7_skips_10 : decode cX7_skips 10 = .ok (.if_icmp .ne 16, 3) := by decide +kernel
theorem dX7_skips_13 : decode cX7_skips 13 = .ok (.aload_n 0, 1) := by decide +kernel
theorem dX7_skips_14 : decode cX7_skips 14 = .ok (.dup, 1) := by decide +kernel
theorem dX7_skips_15 : decode cX7_skips 15 = .ok (.getfield 51, 3) := by decide +kernel
theorem dX7_skips_18 : decode cX7_skips 18 = .ok (.iconst 1, 1) := by decide +kernel
theorem dX7_skips_19 : decode cX7_skips 19 = .ok (.iadd, 1) := by decide +kernel
theorem dX7_skips_20 : decode cX7_skips 20 = .ok (.putfield 51, 3) := by decide +kernel
theorem dX7_skips_23 : decode cX7_skips 23 = .ok (.goto (-23), 3) := by decide +kernel
theorem dX7_skips_26 : decode cX7_skips 26 = .ok (.return_, 1) := by decide +kernel
theorem dX7_isDigit_0 : decode cX7_isDigit 0 = .ok (.iload_n 0, 1) := by decide +kernel
theorem dX7_isDigit_1 : decode cX7_isDigit 1 = .ok (.bipush 48, 2) := by decide +kernel
theorem dX7_isDigit_3 : decode cX7_isDigit 3 = .ok (.bipush 57, 2) := by decide +kernel
theorem dX7_isDigit_5 : decode cX7_isDigit 5 = .ok (.invokestatic 39, 3) := by decide +kernel
theorem dX7_isDigit_8 : decode cX7_isDigit 8 = .ok (.ireturn, 1) := by decide +kernel
theorem dX7_isNumber_0 : decode cX7_isNumber 0 = .ok (.aload_n 0, 1) := by decide +kernel
theorem dX7_isNumber_1 : decode cX7_isNumber 1 = .ok (.invokevirtual 57, 3) := by decide +kernel
theorem dX7_isNumber_4 : decode cX7_isNumber 4 = .ok (.aload_n 0, 1) := by decide +kernel
theorem dX7_isNumber_5 : decode cX7_isNumber 5 = .ok (.getfield 51, 3) := by decide +kernel
theorem dX7_isNumber_8 : decode cX7_isNumber 8 = .ok (.istore_n 3, 1) := by decide +kernel
theorem dX7_isNumber_9 : decode cX7_isNumber 9 = .ok (.iconst 0, 1) := by decide +kernel
theorem dX7_isNumber_10 : decode cX7_isNumber 10 = .ok (.istore 4, 2) := by decide +kernel
theorem dX7_isNumber_12 : decode cX7_isNumber 12 = .ok (.aload_n 0, 1) := by decide +kernel
theorem dX7_isNumber_13 : decode cX7_isNumber 13 = .ok (.iload_n 3, 1) := by decide +kernel
theorem dX7_isNumber_14 : decode cX7_isNumber 14 = .ok (.invokevirtual 54, 3) := by decide +kernel
theorem dX7_isNumber_17 : decode cX7_isNumber 17 = .ok (.invokestatic 60, 3) := by decide +kernel
theorem dX7_isNumber_20 : decode cX7_isNumber 20 = .ok (.ifCond .eq 36, 3) := by decide +kernel
theorem dX7_isNumber_23 : decode cX7_isNumber 23 = .ok (.iload_n 3, 1) := by decide +kernel
theorem dX7_isNumber_24 : decode cX7_isNumber 24 = .ok (.aload_n 0, 1) := by decide +kernel
theorem dX7_isNumber_25 : decode cX7_isNumber 25 = .ok (.getfield 51, 3) := by decide +kernel
theorem dX7_isNumber_28 : decode cX7_isNumber 28 = .ok (.isub, 1) := by decide +kernel
theorem dX7_isNumber_29 : decode cX7_isNumber 29 = .ok (.iconst 3, 1) := by decide +kernel
theorem dX7_isNumber_30 : decode cX7_isNumber 30 = .ok (.if_icmp .ge 26, 3) := by decide +kernel
theorem dX7_isNumber_33 : decode cX7_isNumber 33 = .ok (.bipush 10, 2) := by decide +kernel
theorem dX7_isNumber_35 : decode cX7_isNumber 35 = .ok (.iload 4, 2) := by decide +kernel
theorem dX7_isNumber_37 : decode cX7_isNumber 37 = .ok (.imul, 1) := by decide +kernel
theorem dX7_isNumber_38 : decode cX7_isNumber 38 = .ok (.aload_n 0, 1) := by decide +kernel
theorem dX7_isNumber_39 : decode cX7_isNumber 39 = .ok (.getfield 19, 3) := by decide +kernel
theorem dX7_isNumber_42 : decode cX7_isNumber 42 = .ok (.iload_n 3, 1) := by decide +kernel
theorem dX7_isNumber_43 : decode cX7_isNumber 43 = .ok (.iaload, 1) := by decide +kernel
theorem dX7_isNumber_44 : decode cX7_isNumber 44 = .ok (.iadd, 1) := by decide +kernel
theorem dX7_isNumber_45 : decode cX7_isNumber 45 = .ok (.bipush 48, 2) := by decide +kernel
theorem dX7_isNumber_47 : decode cX7_isNumber 47 = .ok (.isub, 1) := by decide +kernel
theorem dX7_isNumber_48 : decode cX7_isNumber 48 = .ok (.istore 4, 2) := by decide +kernel
theorem dX7_isNumber_50 : decode cX7_isNumber 50 = .ok (.iinc 3 1, 3) := by decide +kernel
theorem dX7_isNumber_53 : decode cX7_isNumber 53 = .ok (.goto (-41), 3) := by decide +kernel
theorem dX7_isNumber_56 : decode cX7_isNumber 56 = .ok (.iload_n 3, 1) := by decide +kernel
theorem dX7_isNumber_57 : decode cX7_isNumber 57 = .ok (.aload_n 0, 1) := by decide +kernel
theorem dX7_isNumber_58 : decode cX7_isNumber 58 = .ok (.getfield 51, 3) := by decide +kernel
theorem dX7_isNumber_61 : decode cX7_isNumber 61 = .ok (.if_icmp .le 27, 3) := by decide +kernel
theorem dX7_isNumber_64 : decode cX7_isNumber 64 = .ok (.iload_n 3, 1) := by decide +kernel
theorem dX7_isNumber_65 : decode cX7_isNumber 65 = .ok (.aload_n 0, 1) := by decide +kernel
theorem dX7_isNumber_66 : decode cX7_isNumber 66 = .ok (.getfield 51, 3) := by decide +kernel
theorem dX7_isNumber_69 : decode cX7_isNumber 69 = .ok (.isub, 1) := by decide +kernel
theorem dX7_isNumber_70 : decode cX7_isNumber 70 = .ok (.iconst 3, 1) := by decide +kernel
theorem dX7_isNumber_71 : decode cX7_isNumber 71 = .ok (.if_icmp .ge 17, 3) := by decide +kernel
theorem dX7_isNumber_74 : decode cX7_isNumber 74 = .ok (.iload 4, 2) := by decide +kernel
theorem dX7_isNumber_76 : decode cX7_isNumber 76 = .ok (.iload_n 1, 1) := by decide +kernel
theorem dX7_isNumber_77 : decode cX7_isNumber 77 = .ok (.iload_n 2, 1) := by decide +kernel
theorem dX7_isNumber_78 : decode cX7_isNumber 78 = .ok (.invokestatic 39, 3) := by decide +kernel
theorem dX7_isNumber_81 : decode cX7_isNumber 81 = .ok (.ifCond .eq 7, 3) := by decide +kernel
theorem dX7_isNumber_84 : decode cX7_isNumber 84 = .ok (.iconst 1, 1) := by decide +kernel
theorem dX7_isNumber_85 : decode cX7_isNumber 85 = .ok (.goto 4, 3) := by decide +kernel
theorem dX7_isNumber_88 : decode cX7_isNumber 88 = .ok (.iconst 0, 1) := by decide +kernel
theorem dX7_isNumber_89 : decode cX7_isNumber 89 = .ok (.istore 5, 2) := by decide +kernel
theorem dX7_isNumber_91 : decode cX7_isNumber 91 = .ok (.aload_n 0, 1) := by decide +kernel
theorem dX7_isNumber_92 : decode cX7_isNumber 92 = .ok (.iload 4, 2) := by decide +kernel
theorem dX7_isNumber_94 : decode cX7_isNumber 94 = .ok (.putfield 64, 3) := by decide +kernel
theorem dX7_isNumber_97 : decode cX7_isNumber 97 = .ok (.aload_n 0, 1) := by decide +kernel
theorem dX7_isNumber_98 : decode cX7_isNumber 98 = .ok (.iload 5, 2) := by decide +kernel
theorem dX7_isNumber_100 : decode cX7_isNumber 100 = .ok (.ifCond .eq 7, 3) := by decide +kernel
theorem dX7_isNumber_103 : decode cX7_isNumber 103 = .ok (.iload_n 3, 1) := by decide +kernel
theorem dX7_isNumber_104 : decode cX7_isNumber 104 = .ok (.goto 7, 3) := by decide +kernel
theorem dX7_isNumber_107 : decode cX7_isNumber 107 = .ok (.aload_n 0, 1) := by decide +kernel
theorem dX7_isNumber_108 : decode cX7_isNumber 108 = .ok (.getfield 51, 3) := by decide +kernel
theorem dX7_isNumber_111 : decode cX7_isNumber 111 = .ok (.putfield 51, 3) := by decide +kernel
theorem dX7_isNumber_114 : decode cX7_isNumber 114 = .ok (.iload 5, 2) := by decide +kernel
theorem dX7_isNumber_116 : decode cX7_isNumber 116 = .ok (.ireturn, 1) := by decide +kernel
theorem dX7_isWord_0 : decode cX7_isWord 0 = .ok (.iconst 1, 1) := by decide +kernel
theorem dX7_isWord_1 : decode cX7_isWord 1 = .ok (.istore_n 3, 1) := by decide +kernel
theorem dX7_isWord_2 : decode cX7_isWord 2 = .ok (.iconst 0, 1) := by decide +kernel
theorem dX7_isWord_3 : decode cX7_isWord 3 = .ok (.istore 4, 2) := by decide +kernel
theorem dX7_isWord_5 : decode cX7_isWord 5 = .ok (.iload 4, 2) := by decide +kernel
theorem dX7_isWord_7 : decode cX7_isWord 7 = .ok (.iload_n 2, 1) := by decide +kernel
theorem dX7_isWord_8 : decode cX7_isWord 8 = .ok (.if_icmp .ge 42, 3) := by decide +kernel
theorem dX7_isWord_11 : decode cX7_isWord 11 = .ok (.iload_n 3, 1) := by decide +kernel
theorem dX7_isWord_12 : decode cX7_isWord 12 = .ok (.ifCond .eq 30, 3) := by decide +kernel
theorem dX7_isWord_15 : decode cX7_isWord 15 = .ok (.aload_n 0, 1) := by decide +kernel
theorem dX7_isWord_16 : decode cX7_isWord 16 = .ok (.aload_n 0, 1) := by decide +kernel
theorem dX7_isWord_17 : decode cX7_isWord 17 = .ok (.getfield 51, 3) := by decide +kernel
theorem dX7_isWord_20 : decode cX7_isWord 20 = .ok (.iload 4, 2) := by decide +kernel
theorem dX7_isWord_22 : decode cX7_isWord 22 = .ok (.iadd, 1) := by decide +kernel
theorem dX7_isWord_23 : decode cX7_isWord 23 = .ok (.invokevirtual 54, 3) := by decide +kernel
theorem dX7_isWord_26 : decode cX7_isWord 26 = .ok (.aload_n 0, 1) := by decide +kernel
theorem dX7_isWord_27 : decode cX7_isWord 27 = .ok (.getfield 22, 3) := by decide +kernel
theorem dX7_isWord_30 : decode cX7_isWord 30 = .ok (.iload_n 1, 1) := by decide +kernel
theorem dX7_isWord_31 : decode cX7_isWord 31 = .ok (.iload 4, 2) := by decide +kernel
theorem dX7_isWord_33 : decode cX7_isWord 33 = .ok (.iadd, 1) := by decide +kernel
theorem dX7_isWord_34 : decode cX7_isWord 34 = .ok (.caload, 1) := by decide +kernel
theorem dX7_isWord_35 : decode cX7_isWord 35 = .ok (.if_icmp .ne 7, 3) := by decide +kernel
theorem dX7_isWord_38 : decode cX7_isWord 38 = .ok (.iconst 1, 1) := by decide +kernel
theorem dX7_isWord_39 : decode cX7_isWord 39 = .ok (.goto 4, 3) := by decide +kernel
theorem dX7_isWord_42 : decode cX7_isWord 42 = .ok (.iconst 0, 1) := by decide +kernel
theorem dX7_isWord_43 : decode cX7_isWord 43 = .ok (.istore_n 3, 1) := by decide +kernel
theorem dX7_isWord_44 : decode cX7_isWord 44 = .ok (.iinc 4 1, 3) := by decide +kernel
theorem dX7_isWord_47 : decode cX7_isWord 47 = .ok (.goto (-42), 3) := by decide +kernel
theorem dX7_isWord_50 : decode cX7_isWord 50 = .ok (.iload_n 3, 1) := by decide +kernel
theorem dX7_isWord_51 : decode cX7_isWord 51 = .ok (.ifCond .eq 27, 3) := by decide +kernel
theorem dX7_isWord_54 : decode cX7_isWord 54 = .ok (.aload_n 0, 1) := by decide +kernel
theorem dX7_isWord_55 : decode cX7_isWord 55 = .ok (.aload_n 0, 1) := by decide +kernel
theorem dX7_isWord_56 : decode cX7_isWord 56 = .ok (.getfield 51, 3) := by decide +kernel
theorem dX7_isWord_59 : decode cX7_isWord 59 = .ok (.iload_n 2, 1) := by decide +kernel
theorem dX7_isWord_60 : decode cX7_isWord 60 = .ok (.iadd, 1) := by decide +kernel
theorem dX7_isWord_61 : decode cX7_isWord 61 = .ok (.invokevirtual 54, 3) := by decide +kernel
theorem dX7_isWord_64 : decode cX7_isWord 64 = .ok (.bipush 97, 2) := by decide +kernel
theorem dX7_isWord_66 : decode cX7_isWord 66 = .ok (.bipush 122, 2) := by decide +kernel
theorem dX7_isWord_68 : decode cX7_isWord 68 = .ok (.invokestatic 39, 3) := by decide +kernel
theorem dX7_isWord_71 : decode cX7_isWord 71 = .ok (.ifCond .ne 7, 3) := by decide +kernel
theorem dX7_isWord_74 : decode cX7_isWord 74 = .ok (.iconst 1, 1) := by decide +kernel
theorem dX7_isWord_75 : decode cX7_isWord 75 = .ok (.goto 4, 3) := by decide +kernel
theorem dX7_isWord_78 : decode cX7_isWord 78 = .ok (.iconst 0, 1) := by decide +kernel
theorem dX7_isWord_79 : decode cX7_isWord 79 = .ok (.ireturn, 1) := by decide +kernel
theorem dX7_word_0 : decode cX7_word 0 = .ok (.aload_n 0, 1) := by decide +kernel
theorem dX7_word_1 : decode cX7_word 1 = .ok (.invokevirtual 57, 3) := by decide +kernel
theorem dX7_word_4 : decode cX7_word 4 = .ok (.iconst 0, 1) := by decide +kernel
theorem dX7_word_5 : decode cX7_word 5 = .ok (.istore_n 3, 1) := by decide +kernel
theorem dX7_word_6 : decode cX7_word 6 = .ok (.iconst 0, 1) := by decide +kernel
theorem dX7_word_7 : decode cX7_word 7 = .ok (.istore 4, 2) := by decide +kernel
theorem dX7_word_9 : decode cX7_word 9 = .ok (.iload 4, 2) := by decide +kernel
theorem dX7_word_11 : decode cX7_word 11 = .ok (.aload_n 0, 1) := by decide +kernel
theorem dX7_word_12 : decode cX7_word 12 = .ok (.getfield 22, 3) := by decide +kernel
theorem dX7_word_15 : decode cX7_word 15 = .ok (.arraylength, 1) := by decide +kernel
theorem dX7_word_16 : decode cX7_word 16 = .ok (.if_icmp .ge 77, 3) := by decide +kernel
theorem dX7_word_19 : decode cX7_word 19 = .ok (.iconst 0, 1) := by decide +kernel
theorem dX7_word_20 : decode cX7_word 20 = .ok (.istore 5, 2) := by decide +kernel
theorem dX7_word_22 : decode cX7_word 22 = .ok (.aload_n 0, 1) := by decide +kernel
theorem dX7_word_23 : decode cX7_word 23 = .ok (.getfield 22, 3) := by decide +kernel
theorem dX7_word_26 : decode cX7_word 26 = .ok (.iload 4, 2) := by decide +kernel
theorem dX7_word_28 : decode cX7_word 28 = .ok (.iload 5, 2) := by decide +kernel
theorem dX7_word_30 : decode cX7_word 30 = .ok (.iadd, 1) := by decide +kernel
theorem dX7_word_31 : decode cX7_word 31 = .ok (.caload, 1) := by decide +kernel
theorem dX7_word_32 : decode cX7_word 32 = .ok (.bipush 32, 2) := by decide +kernel
theorem dX7_word_34 : decode cX7_word 34 = .ok (.if_icmp .eq 9, 3) := by decide +kernel
theorem dX7_word_37 : decode cX7_word 37 = .ok (.iinc 5 1, 3) := by decide +kernel
theorem dX7_word_40 : decode cX7_word 40 = .ok (.goto (-18), 3) := by decide +kernel
theorem dX7_word_43 : decode cX7_word 43 = .ok (.iload_n 3, 1) := by decide +kernel
theorem dX7_word_44 : decode cX7_word 44 = .ok (.iload_n 1, 1) := by decide +kernel
theorem dX7_word_45 : decode cX7_word 45 = .ok (.iload_n 2, 1) := by decide +kernel
theorem dX7_word_46 : decode cX7_word 46 = .ok (.invokestatic 39, 3) := by decide +kernel
theorem dX7_word_49 : decode cX7_word 49 = .ok (.ifCond .eq 29, 3) := by decide +kernel
theorem dX7_word_52 : decode cX7_word 52 = .ok (.aload_n 0, 1) := by decide +kernel
theorem dX7_word_53 : decode cX7_word 53 = .ok (.iload 4, 2) := by decide +kernel
theorem dX7_word_55 : decode cX7_word 55 = .ok (.iload 5, 2) := by decide +kernel
theorem dX7_word_57 : decode cX7_word 57 = .ok (.invokevirtual 67, 3) := by decide +kernel
theorem dX7_word_60 : decode cX7_word 60 = .ok (.ifCond .eq 18, 3) := by decide +kernel
theorem dX7_word_63 : decode cX7_word 63 = .ok (.aload_n 0, 1) := by decide +kernel
theorem dX7_word_64 : decode cX7_word 64 = .ok (.dup, 1) := by decide +kernel
theorem dX7_word_65 : decode cX7_word 65 = .ok (.getfield 51, 3) := by decide +kernel
theorem dX7_word_68 : decode cX7_word 68 = .ok (.iload 5, 2) := by decide +kernel
theorem dX7_word_70 : decode cX7_word 70 = .ok (.iadd, 1) := by decide +kernel
theorem dX7_word_71 : decode cX7_word 71 = .ok (.putfield 51, 3) := by decide +kernel
theorem dX7_word_74 : decode cX7_word 74 = .ok (.iload_n 3, 1) := by decide +kernel
theorem dX7_word_75 : decode cX7_word 75 = .ok (.iload_n 1, 1) := by decide +kernel
theorem dX7_word_76 : decode cX7_word 76 = .ok (.isub, 1) := by decide +kernel
theorem dX7_word_77 : decode cX7_word 77 = .ok (.ireturn, 1) := by decide +kernel
theorem dX7_word_78 : decode cX7_word 78 = .ok (.iinc 3 1, 3) := by decide +kernel
theorem dX7_word_81 : decode cX7_word 81 = .ok (.iload 4, 2) := by decide +kernel
theorem dX7_word_83 : decode cX7_word 83 = .ok (.iload 5, 2) := by decide +kernel
theorem dX7_word_85 : decode cX7_word 85 = .ok (.iconst 1, 1) := by decide +kernel
theorem dX7_word_86 : decode cX7_word 86 = .ok (.iadd, 1) := by decide +kernel
theorem dX7_word_87 : decode cX7_word 87 = .ok (.iadd, 1) := by decide +kernel
theorem dX7_word_88 : decode cX7_word 88 = .ok (.istore 4, 2) := by decide +kernel
theorem dX7_word_90 : decode cX7_word 90 = .ok (.goto (-81), 3) := by decide +kernel
theorem dX7_word_93 : decode cX7_word 93 = .ok (.iconst (-1), 1) := by decide +kernel
theorem dX7_word_94 : decode cX7_word 94 = .ok (.ireturn, 1) := by decide +kernel
theorem dX7_ends_0 : decode cX7_ends 0 = .ok (.aload_n 0, 1) := by decide +kernel
theorem dX7_ends_1 : decode cX7_ends 1 = .ok (.invokevirtual 57, 3) := by decide +kernel
theorem dX7_ends_4 : decode cX7_ends 4 = .ok (.aload_n 0, 1) := by decide +kernel
theorem dX7_ends_5 : decode cX7_ends 5 = .ok (.aload_n 0, 1) := by decide +kernel
theorem dX7_ends_6 : decode cX7_ends 6 = .ok (.getfield 51, 3) := by decide +kernel
theorem dX7_ends_9 : decode cX7_ends 9 = .ok (.invokevirtual 54, 3) := by decide +kernel
theorem dX7_ends_12 : decode cX7_ends 12 = .ok (.bipush 59, 2) := by decide +kernel
theorem dX7_ends_14 : decode cX7_ends 14 = .ok (.if_icmp .ne 7, 3) := by decide +kernel
theorem dX7_ends_17 : decode cX7_ends 17 = .ok (.iconst 1, 1) := by decide +kernel
theorem dX7_ends_18 : decode cX7_ends 18 = .ok (.goto 4, 3) := by decide +kernel
theorem dX7_ends_21 : decode cX7_ends 21 = .ok (.iconst 0, 1) := by decide +kernel
theorem dX7_ends_22 : decode cX7_ends 22 = .ok (.istore_n 1, 1) := by decide +kernel
theorem dX7_ends_23 : decode cX7_ends 23 = .ok (.aload_n 0, 1) := by decide +kernel
theorem dX7_ends_24 : decode cX7_ends 24 = .ok (.dup, 1) := by decide +kernel
theorem dX7_ends_25 : decode cX7_ends 25 = .ok (.getfield 51, 3) := by decide +kernel
theorem dX7_ends_28 : decode cX7_ends 28 = .ok (.iload_n 1, 1) := by decide +kernel
theorem dX7_ends_29 : decode cX7_ends 29 = .ok (.ifCond .eq 7, 3) := by decide +kernel
theorem dX7_ends_32 : decode cX7_ends 32 = .ok (.iconst 1, 1) := by decide +kernel
theorem dX7_ends_33 : decode cX7_ends 33 = .ok (.goto 4, 3) := by decide +kernel
theorem dX7_ends_36 : decode cX7_ends 36 = .ok (.iconst 0, 1) := by decide +kernel
theorem dX7_ends_37 : decode cX7_ends 37 = .ok (.iadd, 1) := by decide +kernel
theorem dX7_ends_38 : decode cX7_ends 38 = .ok (.putfield 51, 3) := by decide +kernel
theorem dX7_ends_41 : decode cX7_ends 41 = .ok (.iload_n 1, 1) := by decide +kernel
theorem dX7_ends_42 : decode cX7_ends 42 = .ok (.ireturn, 1) := by decide +kernel
theorem dX7_readsGate_0 : decode cX7_readsGate 0 = .ok (.aload_n 0, 1) := by decide +kernel
theorem dX7_readsGate_1 : decode cX7_readsGate 1 = .ok (.getfield 13, 3) := by decide +kernel
theorem dX7_readsGate_4 : decode cX7_readsGate 4 = .ok (.iconst 1, 1) := by decide +kernel
theorem dX7_readsGate_5 : decode cX7_readsGate 5 = .ok (.iaload, 1) := by decide +kernel
theorem dX7_readsGate_6 : decode cX7_readsGate 6 = .ok (.istore_n 1, 1) := by decide +kernel
theorem dX7_readsGate_7 : decode cX7_readsGate 7 = .ok (.aload_n 0, 1) := by decide +kernel
theorem dX7_readsGate_8 : decode cX7_readsGate 8 = .ok (.getfield 13, 3) := by decide +kernel
theorem dX7_readsGate_11 : decode cX7_readsGate 11 = .ok (.iconst 0, 1) := by decide +kernel
theorem dX7_readsGate_12 : decode cX7_readsGate 12 = .ok (.iaload, 1) := by decide +kernel
theorem dX7_readsGate_13 : decode cX7_readsGate 13 = .ok (.iload_n 1, 1) := by decide +kernel
theorem dX7_readsGate_14 : decode cX7_readsGate 14 = .ok (.iadd, 1) := by decide +kernel
theorem dX7_readsGate_15 : decode cX7_readsGate 15 = .ok (.iconst 1, 1) := by decide +kernel
theorem dX7_readsGate_16 : decode cX7_readsGate 16 = .ok (.isub, 1) := by decide +kernel
theorem dX7_readsGate_17 : decode cX7_readsGate 17 = .ok (.istore_n 2, 1) := by decide +kernel
theorem dX7_readsGate_18 : decode cX7_readsGate 18 = .ok (.aload_n 0, 1) := by decide +kernel
theorem dX7_readsGate_19 : decode cX7_readsGate 19 = .ok (.iconst 0, 1) := by decide +kernel
theorem dX7_readsGate_20 : decode cX7_readsGate 20 = .ok (.bipush 7, 2) := by decide +kernel
theorem dX7_readsGate_22 : decode cX7_readsGate 22 = .ok (.invokevirtual 71, 3) := by decide +kernel
theorem dX7_readsGate_25 : decode cX7_readsGate 25 = .ok (.istore_n 3, 1) := by decide +kernel
theorem dX7_readsGate_26 : decode cX7_readsGate 26 = .ok (.iload_n 3, 1) := by decide +kernel
theorem dX7_readsGate_27 : decode cX7_readsGate 27 = .ok (.ifCond .ge 5, 3) := by decide +kernel
theorem dX7_readsGate_30 : decode cX7_readsGate 30 = .ok (.iconst 0, 1) := by decide +kernel
theorem dX7_readsGate_31 : decode cX7_readsGate 31 = .ok (.ireturn, 1) := by decide +kernel
theorem dX7_readsGate_32 : decode cX7_readsGate 32 = .ok (.aload_n 0, 1) := by decide +kernel
theorem dX7_readsGate_33 : decode cX7_readsGate 33 = .ok (.getfield 13, 3) := by decide +kernel
theorem dX7_readsGate_36 : decode cX7_readsGate 36 = .ok (.bipush 6, 2) := by decide +kernel
theorem dX7_readsGate_38 : decode cX7_readsGate 38 = .ok (.iload_n 1, 1) := by decide +kernel
theorem dX7_readsGate_39 : decode cX7_readsGate 39 = .ok (.iadd, 1) := by decide +kernel
theorem dX7_readsGate_40 : decode cX7_readsGate 40 = .ok (.iload_n 3, 1) := by decide +kernel
theorem dX7_readsGate_41 : decode cX7_readsGate 41 = .ok (.iastore, 1) := by decide +kernel
theorem dX7_readsGate_42 : decode cX7_readsGate 42 = .ok (.aload_n 0, 1) := by decide +kernel
theorem dX7_readsGate_43 : decode cX7_readsGate 43 = .ok (.iconst 0, 1) := by decide +kernel
theorem dX7_readsGate_44 : decode cX7_readsGate 44 = .ok (.iload_n 2, 1) := by decide +kernel
theorem dX7_readsGate_45 : decode cX7_readsGate 45 = .ok (.invokevirtual 75, 3) := by decide +kernel
theorem dX7_readsGate_48 : decode cX7_readsGate 48 = .ok (.ifCond .ne 5, 3) := by decide +kernel
theorem dX7_readsGate_51 : decode cX7_readsGate 51 = .ok (.iconst 0, 1) := by decide +kernel
theorem dX7_readsGate_52 : decode cX7_readsGate 52 = .ok (.ireturn, 1) := by decide +kernel
theorem dX7_readsGate_53 : decode cX7_readsGate 53 = .ok (.aload_n 0, 1) := by decide +kernel
theorem dX7_readsGate_54 : decode cX7_readsGate 54 = .ok (.getfield 13, 3) := by decide +kernel
theorem dX7_readsGate_57 : decode cX7_readsGate 57 = .ok (.bipush 18, 2) := by decide +kernel
theorem dX7_readsGate_59 : decode cX7_readsGate 59 = .ok (.iload_n 1, 1) := by decide +kernel
theorem dX7_readsGate_60 : decode cX7_readsGate 60 = .ok (.iadd, 1) := by decide +kernel
theorem dX7_readsGate_61 : decode cX7_readsGate 61 = .ok (.aload_n 0, 1) := by decide +kernel
theorem dX7_readsGate_62 : decode cX7_readsGate 62 = .ok (.getfield 64, 3) := by decide +kernel
theorem dX7_readsGate_65 : decode cX7_readsGate 65 = .ok (.iastore, 1) := by decide +kernel
theorem dX7_readsGate_66 : decode cX7_readsGate 66 = .ok (.aload_n 0, 1) := by decide +kernel
theorem dX7_readsGate_67 : decode cX7_readsGate 67 = .ok (.getfield 13, 3) := by decide +kernel
theorem dX7_readsGate_70 : decode cX7_readsGate 70 = .ok (.bipush 30, 2) := by decide +kernel
theorem dX7_readsGate_72 : decode cX7_readsGate 72 = .ok (.iload_n 1, 1) := by decide +kernel
theorem dX7_readsGate_73 : decode cX7_readsGate 73 = .ok (.iadd, 1) := by decide +kernel
theorem dX7_readsGate_74 : decode cX7_readsGate 74 = .ok (.iconst (-1), 1) := by decide +kernel
theorem dX7_readsGate_75 : decode cX7_readsGate 75 = .ok (.iastore, 1) := by decide +kernel
theorem dX7_readsGate_76 : decode cX7_readsGate 76 = .ok (.iload_n 3, 1) := by decide +kernel
theorem dX7_readsGate_77 : decode cX7_readsGate 77 = .ok (.ifCond .eq 27, 3) := by decide +kernel
theorem dX7_readsGate_80 : decode cX7_readsGate 80 = .ok (.aload_n 0, 1) := by decide +kernel
theorem dX7_readsGate_81 : decode cX7_readsGate 81 = .ok (.iconst 0, 1) := by decide +kernel
theorem dX7_readsGate_82 : decode cX7_readsGate 82 = .ok (.iload_n 2, 1) := by decide +kernel
theorem dX7_readsGate_83 : decode cX7_readsGate 83 = .ok (.invokevirtual 75, 3) := by decide +kernel
theorem dX7_readsGate_86 : decode cX7_readsGate 86 = .ok (.ifCond .ne 5, 3) := by decide +kernel
theorem dX7_readsGate_89 : decode cX7_readsGate 89 = .ok (.iconst 0, 1) := by decide +kernel
theorem dX7_readsGate_90 : decode cX7_readsGate 90 = .ok (.ireturn, 1) := by decide +kernel
theorem dX7_readsGate_91 : decode cX7_readsGate 91 = .ok (.aload_n 0, 1) := by decide +kernel
theorem dX7_readsGate_92 : decode cX7_readsGate 92 = .ok (.getfield 13, 3) := by decide +kernel
theorem dX7_readsGate_95 : decode cX7_readsGate 95 = .ok (.bipush 30, 2) := by decide +kernel
theorem dX7_readsGate_97 : decode cX7_readsGate 97 = .ok (.iload_n 1, 1) := by decide +kernel
theorem dX7_readsGate_98 : decode cX7_readsGate 98 = .ok (.iadd, 1) := by decide +kernel
theorem dX7_readsGate_99 : decode cX7_readsGate 99 = .ok (.aload_n 0, 1) := by decide +kernel
theorem dX7_readsGate_100 : decode cX7_readsGate 100 = .ok (.getfield 64, 3) := by decide +kernel
theorem dX7_readsGate_103 : decode cX7_readsGate 103 = .ok (.iastore, 1) := by decide +kernel
theorem dX7_readsGate_104 : decode cX7_readsGate 104 = .ok (.aload_n 0, 1) := by decide +kernel
theorem dX7_readsGate_105 : decode cX7_readsGate 105 = .ok (.getfield 13, 3) := by decide +kernel
theorem dX7_readsGate_108 : decode cX7_readsGate 108 = .ok (.iconst 1, 1) := by decide +kernel
theorem dX7_readsGate_109 : decode cX7_readsGate 109 = .ok (.dup2, 1) := by decide +kernel
theorem dX7_readsGate_110 : decode cX7_readsGate 110 = .ok (.iaload, 1) := by decide +kernel
theorem dX7_readsGate_111 : decode cX7_readsGate 111 = .ok (.iconst 1, 1) := by decide +kernel
theorem dX7_readsGate_112 : decode cX7_readsGate 112 = .ok (.iadd, 1) := by decide +kernel
theorem dX7_readsGate_113 : decode cX7_readsGate 113 = .ok (.iastore, 1) := by decide +kernel
theorem dX7_readsGate_114 : decode cX7_readsGate 114 = .ok (.aload_n 0, 1) := by decide +kernel
theorem dX7_readsGate_115 : decode cX7_readsGate 115 = .ok (.invokevirtual 78, 3) := by decide +kernel
theorem dX7_readsGate_118 : decode cX7_readsGate 118 = .ok (.ireturn, 1) := by decide +kernel
theorem dX7_readsOuts_0 : decode cX7_readsOuts 0 = .ok (.aload_n 0, 1) := by decide +kernel
theorem dX7_readsOuts_1 : decode cX7_readsOuts 1 = .ok (.getfield 13, 3) := by decide +kernel
theorem dX7_readsOuts_4 : decode cX7_readsOuts 4 = .ok (.iconst 0, 1) := by decide +kernel
theorem dX7_readsOuts_5 : decode cX7_readsOuts 5 = .ok (.iaload, 1) := by decide +kernel
theorem dX7_readsOuts_6 : decode cX7_readsOuts 6 = .ok (.aload_n 0, 1) := by decide +kernel
theorem dX7_readsOuts_7 : decode cX7_readsOuts 7 = .ok (.getfield 13, 3) := by decide +kernel
theorem dX7_readsOuts_10 : decode cX7_readsOuts 10 = .ok (.iconst 1, 1) := by decide +kernel
theorem dX7_readsOuts_11 : decode cX7_readsOuts 11 = .ok (.iaload, 1) := by decide +kernel
theorem dX7_readsOuts_12 : decode cX7_readsOuts 12 = .ok (.iadd, 1) := by decide +kernel
theorem dX7_readsOuts_13 : decode cX7_readsOuts 13 = .ok (.iconst 1, 1) := by decide +kernel
theorem dX7_readsOuts_14 : decode cX7_readsOuts 14 = .ok (.isub, 1) := by decide +kernel
theorem dX7_readsOuts_15 : decode cX7_readsOuts 15 = .ok (.istore_n 1, 1) := by decide +kernel
theorem dX7_readsOuts_16 : decode cX7_readsOuts 16 = .ok (.aload_n 0, 1) := by decide +kernel
theorem dX7_readsOuts_17 : decode cX7_readsOuts 17 = .ok (.invokevirtual 57, 3) := by decide +kernel
theorem dX7_readsOuts_20 : decode cX7_readsOuts 20 = .ok (.aload_n 0, 1) := by decide +kernel
theorem dX7_readsOuts_21 : decode cX7_readsOuts 21 = .ok (.getfield 13, 3) := by decide +kernel
theorem dX7_readsOuts_24 : decode cX7_readsOuts 24 = .ok (.iconst 2, 1) := by decide +kernel
theorem dX7_readsOuts_25 : decode cX7_readsOuts 25 = .ok (.iaload, 1) := by decide +kernel
theorem dX7_readsOuts_26 : decode cX7_readsOuts 26 = .ok (.ifCond .le 21, 3) := by decide +kernel
theorem dX7_readsOuts_29 : decode cX7_readsOuts 29 = .ok (.aload_n 0, 1) := by decide +kernel
theorem dX7_readsOuts_30 : decode cX7_readsOuts 30 = .ok (.aload_n 0, 1) := by decide +kernel
theorem dX7_readsOuts_31 : decode cX7_readsOuts 31 = .ok (.getfield 51, 3) := by decide +kernel
theorem dX7_readsOuts_34 : decode cX7_readsOuts 34 = .ok (.invokevirtual 54, 3) := by decide +kernel
theorem dX7_readsOuts_37 : decode cX7_readsOuts 37 = .ok (.bipush 59, 2) := by decide +kernel
theorem dX7_readsOuts_39 : decode cX7_readsOuts 39 = .ok (.if_icmp .ne 8, 3) := by decide +kernel
theorem dX7_readsOuts_42 : decode cX7_readsOuts 42 = .ok (.aload_n 0, 1) := by decide +kernel
theorem dX7_readsOuts_43 : decode cX7_readsOuts 43 = .ok (.invokevirtual 78, 3) := by decide +kernel
theorem dX7_readsOuts_46 : decode cX7_readsOuts 46 = .ok (.ireturn, 1) := by decide +kernel
theorem dX7_readsOuts_47 : decode cX7_readsOuts 47 = .ok (.aload_n 0, 1) := by decide +kernel
theorem dX7_readsOuts_48 : decode cX7_readsOuts 48 = .ok (.getfield 13, 3) := by decide +kernel
theorem dX7_readsOuts_51 : decode cX7_readsOuts 51 = .ok (.iconst 2, 1) := by decide +kernel
theorem dX7_readsOuts_52 : decode cX7_readsOuts 52 = .ok (.iaload, 1) := by decide +kernel
theorem dX7_readsOuts_53 : decode cX7_readsOuts 53 = .ok (.bipush 7, 2) := by decide +kernel
theorem dX7_readsOuts_55 : decode cX7_readsOuts 55 = .ok (.if_icmp .eq 12, 3) := by decide +kernel
theorem dX7_readsOuts_58 : decode cX7_readsOuts 58 = .ok (.aload_n 0, 1) := by decide +kernel
theorem dX7_readsOuts_59 : decode cX7_readsOuts 59 = .ok (.iconst 0, 1) := by decide +kernel
theorem dX7_readsOuts_60 : decode cX7_readsOuts 60 = .ok (.iload_n 1, 1) := by decide +kernel
theorem dX7_readsOuts_61 : decode cX7_readsOuts 61 = .ok (.invokevirtual 75, 3) := by decide +kernel
theorem dX7_readsOuts_64 : decode cX7_readsOuts 64 = .ok (.ifCond .ne 5, 3) := by decide +kernel
theorem dX7_readsOuts_67 : decode cX7_readsOuts 67 = .ok (.iconst 0, 1) := by decide +kernel
theorem dX7_readsOuts_68 : decode cX7_readsOuts 68 = .ok (.ireturn, 1) := by decide +kernel
theorem dX7_readsOuts_69 : decode cX7_readsOuts 69 = .ok (.aload_n 0, 1) := by decide +kernel
theorem dX7_readsOuts_70 : decode cX7_readsOuts 70 = .ok (.getfield 13, 3) := by decide +kernel
theorem dX7_readsOuts_73 : decode cX7_readsOuts 73 = .ok (.bipush 42, 2) := by decide +kernel
theorem dX7_readsOuts_75 : decode cX7_readsOuts 75 = .ok (.aload_n 0, 1) := by decide +kernel
theorem dX7_readsOuts_76 : decode cX7_readsOuts 76 = .ok (.getfield 13, 3) := by decide +kernel
theorem dX7_readsOuts_79 : decode cX7_readsOuts 79 = .ok (.iconst 2, 1) := by decide +kernel
theorem dX7_readsOuts_80 : decode cX7_readsOuts 80 = .ok (.iaload, 1) := by decide +kernel
theorem dX7_readsOuts_81 : decode cX7_readsOuts 81 = .ok (.iadd, 1) := by decide +kernel
theorem dX7_readsOuts_82 : decode cX7_readsOuts 82 = .ok (.aload_n 0, 1) := by decide +kernel
theorem dX7_readsOuts_83 : decode cX7_readsOuts 83 = .ok (.getfield 64, 3) := by decide +kernel
theorem dX7_readsOuts_86 : decode cX7_readsOuts 86 = .ok (.iastore, 1) := by decide +kernel
theorem dX7_readsOuts_87 : decode cX7_readsOuts 87 = .ok (.aload_n 0, 1) := by decide +kernel
theorem dX7_readsOuts_88 : decode cX7_readsOuts 88 = .ok (.getfield 13, 3) := by decide +kernel
theorem dX7_readsOuts_91 : decode cX7_readsOuts 91 = .ok (.iconst 2, 1) := by decide +kernel
theorem dX7_readsOuts_92 : decode cX7_readsOuts 92 = .ok (.dup2, 1) := by decide +kernel
theorem dX7_readsOuts_93 : decode cX7_readsOuts 93 = .ok (.iaload, 1) := by decide +kernel
theorem dX7_readsOuts_94 : decode cX7_readsOuts 94 = .ok (.iconst 1, 1) := by decide +kernel
theorem dX7_readsOuts_95 : decode cX7_readsOuts 95 = .ok (.iadd, 1) := by decide +kernel
theorem dX7_readsOuts_96 : decode cX7_readsOuts 96 = .ok (.iastore, 1) := by decide +kernel
theorem dX7_readsOuts_97 : decode cX7_readsOuts 97 = .ok (.goto (-81), 3) := by decide +kernel
theorem dX7_readsTask_0 : decode cX7_readsTask 0 = .ok (.aload_n 0, 1) := by decide +kernel
theorem dX7_readsTask_1 : decode cX7_readsTask 1 = .ok (.bipush 8, 2) := by decide +kernel
theorem dX7_readsTask_3 : decode cX7_readsTask 3 = .ok (.bipush 11, 2) := by decide +kernel
theorem dX7_readsTask_5 : decode cX7_readsTask 5 = .ok (.invokevirtual 71, 3) := by decide +kernel
theorem dX7_readsTask_8 : decode cX7_readsTask 8 = .ok (.istore_n 1, 1) := by decide +kernel
theorem dX7_readsTask_9 : decode cX7_readsTask 9 = .ok (.iload_n 1, 1) := by decide +kernel
theorem dX7_readsTask_10 : decode cX7_readsTask 10 = .ok (.ifCond .ge 5, 3) := by decide +kernel
theorem dX7_readsTask_13 : decode cX7_readsTask 13 = .ok (.iconst 0, 1) := by decide +kernel
theorem dX7_readsTask_14 : decode cX7_readsTask 14 = .ok (.ireturn, 1) := by decide +kernel
theorem dX7_readsTask_15 : decode cX7_readsTask 15 = .ok (.aload_n 0, 1) := by decide +kernel
theorem dX7_readsTask_16 : decode cX7_readsTask 16 = .ok (.getfield 13, 3) := by decide +kernel
theorem dX7_readsTask_19 : decode cX7_readsTask 19 = .ok (.iconst 3, 1) := by decide +kernel
theorem dX7_readsTask_20 : decode cX7_readsTask 20 = .ok (.iload_n 1, 1) := by decide +kernel
theorem dX7_readsTask_21 : decode cX7_readsTask 21 = .ok (.iastore, 1) := by decide +kernel
theorem dX7_readsTask_22 : decode cX7_readsTask 22 = .ok (.aload_n 0, 1) := by decide +kernel
theorem dX7_readsTask_23 : decode cX7_readsTask 23 = .ok (.iconst 1, 1) := by decide +kernel
theorem dX7_readsTask_24 : decode cX7_readsTask 24 = .ok (.aload_n 0, 1) := by decide +kernel
theorem dX7_readsTask_25 : decode cX7_readsTask 25 = .ok (.getfield 13, 3) := by decide +kernel
theorem dX7_readsTask_28 : decode cX7_readsTask 28 = .ok (.iconst 0, 1) := by decide +kernel
theorem dX7_readsTask_29 : decode cX7_readsTask 29 = .ok (.iaload, 1) := by decide +kernel
theorem dX7_readsTask_30 : decode cX7_readsTask 30 = .ok (.invokevirtual 75, 3) := by decide +kernel
theorem dX7_readsTask_33 : decode cX7_readsTask 33 = .ok (.ifCond .ne 5, 3) := by decide +kernel
theorem dX7_readsTask_36 : decode cX7_readsTask 36 = .ok (.iconst 0, 1) := by decide +kernel
theorem dX7_readsTask_37 : decode cX7_readsTask 37 = .ok (.ireturn, 1) := by decide +kernel
theorem dX7_readsTask_38 : decode cX7_readsTask 38 = .ok (.aload_n 0, 1) := by decide +kernel
theorem dX7_readsTask_39 : decode cX7_readsTask 39 = .ok (.getfield 13, 3) := by decide +kernel
theorem dX7_readsTask_42 : decode cX7_readsTask 42 = .ok (.iconst 4, 1) := by decide +kernel
theorem dX7_readsTask_43 : decode cX7_readsTask 43 = .ok (.aload_n 0, 1) := by decide +kernel
theorem dX7_readsTask_44 : decode cX7_readsTask 44 = .ok (.getfield 64, 3) := by decide +kernel
theorem dX7_readsTask_47 : decode cX7_readsTask 47 = .ok (.iastore, 1) := by decide +kernel
theorem dX7_readsTask_48 : decode cX7_readsTask 48 = .ok (.aload_n 0, 1) := by decide +kernel
theorem dX7_readsTask_49 : decode cX7_readsTask 49 = .ok (.iconst 0, 1) := by decide +kernel
theorem dX7_readsTask_50 : decode cX7_readsTask 50 = .ok (.aload_n 0, 1) := by decide +kernel
theorem dX7_readsTask_51 : decode cX7_readsTask 51 = .ok (.getfield 13, 3) := by decide +kernel
theorem dX7_readsTask_54 : decode cX7_readsTask 54 = .ok (.iconst 0, 1) := by decide +kernel
theorem dX7_readsTask_55 : decode cX7_readsTask 55 = .ok (.iaload, 1) := by decide +kernel
theorem dX7_readsTask_56 : decode cX7_readsTask 56 = .ok (.aload_n 0, 1) := by decide +kernel
theorem dX7_readsTask_57 : decode cX7_readsTask 57 = .ok (.getfield 13, 3) := by decide +kernel
theorem dX7_readsTask_60 : decode cX7_readsTask 60 = .ok (.iconst 4, 1) := by decide +kernel
theorem dX7_readsTask_61 : decode cX7_readsTask 61 = .ok (.iaload, 1) := by decide +kernel
theorem dX7_readsTask_62 : decode cX7_readsTask 62 = .ok (.isub, 1) := by decide +kernel
theorem dX7_readsTask_63 : decode cX7_readsTask 63 = .ok (.invokevirtual 75, 3) := by decide +kernel
theorem dX7_readsTask_66 : decode cX7_readsTask 66 = .ok (.ifCond .ne 5, 3) := by decide +kernel
theorem dX7_readsTask_69 : decode cX7_readsTask 69 = .ok (.iconst 0, 1) := by decide +kernel
theorem dX7_readsTask_70 : decode cX7_readsTask 70 = .ok (.ireturn, 1) := by decide +kernel
theorem dX7_readsTask_71 : decode cX7_readsTask 71 = .ok (.aload_n 0, 1) := by decide +kernel
theorem dX7_readsTask_72 : decode cX7_readsTask 72 = .ok (.getfield 13, 3) := by decide +kernel
theorem dX7_readsTask_75 : decode cX7_readsTask 75 = .ok (.iconst 5, 1) := by decide +kernel
theorem dX7_readsTask_76 : decode cX7_readsTask 76 = .ok (.aload_n 0, 1) := by decide +kernel
theorem dX7_readsTask_77 : decode cX7_readsTask 77 = .ok (.getfield 64, 3) := by decide +kernel
theorem dX7_readsTask_80 : decode cX7_readsTask 80 = .ok (.iastore, 1) := by decide +kernel
theorem dX7_readsTask_81 : decode cX7_readsTask 81 = .ok (.aload_n 0, 1) := by decide +kernel
theorem dX7_readsTask_82 : decode cX7_readsTask 82 = .ok (.invokevirtual 78, 3) := by decide +kernel
theorem dX7_readsTask_85 : decode cX7_readsTask 85 = .ok (.ireturn, 1) := by decide +kernel
theorem dX7_readsAll_0 : decode cX7_readsAll 0 = .ok (.iconst 0, 1) := by decide +kernel
theorem dX7_readsAll_1 : decode cX7_readsAll 1 = .ok (.istore_n 1, 1) := by decide +kernel
theorem dX7_readsAll_2 : decode cX7_readsAll 2 = .ok (.iload_n 1, 1) := by decide +kernel
theorem dX7_readsAll_3 : decode cX7_readsAll 3 = .ok (.bipush 49, 2) := by decide +kernel
theorem dX7_readsAll_5 : decode cX7_readsAll 5 = .ok (.if_icmp .ge 16, 3) := by decide +kernel
theorem dX7_readsAll_8 : decode cX7_readsAll 8 = .ok (.aload_n 0, 1) := by decide +kernel
theorem dX7_readsAll_9 : decode cX7_readsAll 9 = .ok (.getfield 13, 3) := by decide +kernel
theorem dX7_readsAll_12 : decode cX7_readsAll 12 = .ok (.iload_n 1, 1) := by decide +kernel
theorem dX7_readsAll_13 : decode cX7_readsAll 13 = .ok (.iconst 0, 1) := by decide +kernel
theorem dX7_readsAll_14 : decode cX7_readsAll 14 = .ok (.iastore, 1) := by decide +kernel
theorem dX7_readsAll_15 : decode cX7_readsAll 15 = .ok (.iinc 1 1, 3) := by decide +kernel
theorem dX7_readsAll_18 : decode cX7_readsAll 18 = .ok (.goto (-16), 3) := by decide +kernel
theorem dX7_readsAll_21 : decode cX7_readsAll 21 = .ok (.aload_n 0, 1) := by decide +kernel
theorem dX7_readsAll_22 : decode cX7_readsAll 22 = .ok (.iconst 0, 1) := by decide +kernel
theorem dX7_readsAll_23 : decode cX7_readsAll 23 = .ok (.putfield 51, 3) := by decide +kernel
theorem dX7_readsAll_26 : decode cX7_readsAll 26 = .ok (.aload_n 0, 1) := by decide +kernel
theorem dX7_readsAll_27 : decode cX7_readsAll 27 = .ok (.bipush 12, 2) := by decide +kernel
theorem dX7_readsAll_29 : decode cX7_readsAll 29 = .ok (.bipush 12, 2) := by decide +kernel
theorem dX7_readsAll_31 : decode cX7_readsAll 31 = .ok (.invokevirtual 71, 3) := by decide +kernel
theorem dX7_readsAll_34 : decode cX7_readsAll 34 = .ok (.ifCond .lt 13, 3) := by decide +kernel
theorem dX7_readsAll_37 : decode cX7_readsAll 37 = .ok (.aload_n 0, 1) := by decide +kernel
theorem dX7_readsAll_38 : decode cX7_readsAll 38 = .ok (.iconst 1, 1) := by decide +kernel
theorem dX7_readsAll_39 : decode cX7_readsAll 39 = .ok (.bipush 6, 2) := by decide +kernel
theorem dX7_readsAll_41 : decode cX7_readsAll 41 = .ok (.invokevirtual 75, 3) := by decide +kernel
theorem dX7_readsAll_44 : decode cX7_readsAll 44 = .ok (.ifCond .ne 5, 3) := by decide +kernel
theorem dX7_readsAll_47 : decode cX7_readsAll 47 = .ok (.iconst 0, 1) := by decide +kernel
theorem dX7_readsAll_48 : decode cX7_readsAll 48 = .ok (.ireturn, 1) := by decide +kernel
theorem dX7_readsAll_49 : decode cX7_readsAll 49 = .ok (.aload_n 0, 1) := by decide +kernel
theorem dX7_readsAll_50 : decode cX7_readsAll 50 = .ok (.getfield 13, 3) := by decide +kernel
theorem dX7_readsAll_53 : decode cX7_readsAll 53 = .ok (.iconst 0, 1) := by decide +kernel
theorem dX7_readsAll_54 : decode cX7_readsAll 54 = .ok (.aload_n 0, 1) := by decide +kernel
theorem dX7_readsAll_55 : decode cX7_readsAll 55 = .ok (.getfield 64, 3) := by decide +kernel
theorem dX7_readsAll_58 : decode cX7_readsAll 58 = .ok (.iastore, 1) := by decide +kernel
theorem dX7_readsAll_59 : decode cX7_readsAll 59 = .ok (.aload_n 0, 1) := by decide +kernel
theorem dX7_readsAll_60 : decode cX7_readsAll 60 = .ok (.invokevirtual 78, 3) := by decide +kernel
theorem dX7_readsAll_63 : decode cX7_readsAll 63 = .ok (.ifCond .ne 5, 3) := by decide +kernel
theorem dX7_readsAll_66 : decode cX7_readsAll 66 = .ok (.iconst 0, 1) := by decide +kernel
theorem dX7_readsAll_67 : decode cX7_readsAll 67 = .ok (.ireturn, 1) := by decide +kernel
theorem dX7_readsAll_68 : decode cX7_readsAll 68 = .ok (.aload_n 0, 1) := by decide +kernel
theorem dX7_readsAll_69 : decode cX7_readsAll 69 = .ok (.aload_n 0, 1) := by decide +kernel
theorem dX7_readsAll_70 : decode cX7_readsAll 70 = .ok (.getfield 13, 3) := by decide +kernel
theorem dX7_readsAll_73 : decode cX7_readsAll 73 = .ok (.iconst 1, 1) := by decide +kernel
theorem dX7_readsAll_74 : decode cX7_readsAll 74 = .ok (.iaload, 1) := by decide +kernel
theorem dX7_readsAll_75 : decode cX7_readsAll 75 = .ok (.bipush 12, 2) := by decide +kernel
theorem dX7_readsAll_77 : decode cX7_readsAll 77 = .ok (.if_icmp .ge 8, 3) := by decide +kernel
theorem dX7_readsAll_80 : decode cX7_readsAll 80 = .ok (.bipush 13, 2) := by decide +kernel
theorem dX7_readsAll_82 : decode cX7_readsAll 82 = .ok (.goto 5, 3) := by decide +kernel
theorem dX7_readsAll_85 : decode cX7_readsAll 85 = .ok (.bipush 14, 2) := by decide +kernel
theorem dX7_readsAll_87 : decode cX7_readsAll 87 = .ok (.bipush 14, 2) := by decide +kernel
theorem dX7_readsAll_89 : decode cX7_readsAll 89 = .ok (.invokevirtual 71, 3) := by decide +kernel
theorem dX7_readsAll_92 : decode cX7_readsAll 92 = .ok (.istore_n 1, 1) := by decide +kernel
theorem dX7_readsAll_93 : decode cX7_readsAll 93 = .ok (.iload_n 1, 1) := by decide +kernel
theorem dX7_readsAll_94 : decode cX7_readsAll 94 = .ok (.ifCond .ge 5, 3) := by decide +kernel
theorem dX7_readsAll_97 : decode cX7_readsAll 97 = .ok (.iconst 0, 1) := by decide +kernel
theorem dX7_readsAll_98 : decode cX7_readsAll 98 = .ok (.ireturn, 1) := by decide +kernel
theorem dX7_readsAll_99 : decode cX7_readsAll 99 = .ok (.aload_n 0, 1) := by decide +kernel
theorem dX7_readsAll_100 : decode cX7_readsAll 100 = .ok (.getfield 13, 3) := by decide +kernel
theorem dX7_readsAll_103 : decode cX7_readsAll 103 = .ok (.iconst 1, 1) := by decide +kernel
theorem dX7_readsAll_104 : decode cX7_readsAll 104 = .ok (.iaload, 1) := by decide +kernel
theorem dX7_readsAll_105 : decode cX7_readsAll 105 = .ok (.bipush 12, 2) := by decide +kernel
theorem dX7_readsAll_107 : decode cX7_readsAll 107 = .ok (.if_icmp .ge 11, 3) := by decide +kernel
theorem dX7_readsAll_110 : decode cX7_readsAll 110 = .ok (.iload_n 1, 1) := by decide +kernel
theorem dX7_readsAll_111 : decode cX7_readsAll 111 = .ok (.ifCond .ne 7, 3) := by decide +kernel
theorem dX7_readsAll_114 : decode cX7_readsAll 114 = .ok (.iconst 1, 1) := by decide +kernel
theorem dX7_readsAll_115 : decode cX7_readsAll 115 = .ok (.goto 4, 3) := by decide +kernel
theorem dX7_readsAll_118 : decode cX7_readsAll 118 = .ok (.iconst 0, 1) := by decide +kernel
theorem dX7_readsAll_119 : decode cX7_readsAll 119 = .ok (.istore_n 2, 1) := by decide +kernel
theorem dX7_readsAll_120 : decode cX7_readsAll 120 = .ok (.iload_n 2, 1) := by decide +kernel
theorem dX7_readsAll_121 : decode cX7_readsAll 121 = .ok (.ifCond .eq 12, 3) := by decide +kernel
theorem dX7_readsAll_124 : decode cX7_readsAll 124 = .ok (.aload_n 0, 1) := by decide +kernel
theorem dX7_readsAll_125 : decode cX7_readsAll 125 = .ok (.invokevirtual 82, 3) := by decide +kernel
theorem dX7_readsAll_128 : decode cX7_readsAll 128 = .ok (.ifCond .ne 5, 3) := by decide +kernel
theorem dX7_readsAll_131 : decode cX7_readsAll 131 = .ok (.iconst 0, 1) := by decide +kernel
theorem dX7_readsAll_132 : decode cX7_readsAll 132 = .ok (.ireturn, 1) := by decide +kernel
theorem dX7_readsAll_133 : decode cX7_readsAll 133 = .ok (.iload_n 2, 1) := by decide +kernel
theorem dX7_readsAll_134 : decode cX7_readsAll 134 = .ok (.ifCond .ne 6, 3) := by decide +kernel
theorem dX7_readsAll_137 : decode cX7_readsAll 137 = .ok (.goto 6, 3) := by decide +kernel
theorem dX7_readsAll_140 : decode cX7_readsAll 140 = .ok (.goto (-72), 3) := by decide +kernel
theorem dX7_readsAll_143 : decode cX7_readsAll 143 = .ok (.aload_n 0, 1) := by decide +kernel
theorem dX7_readsAll_144 : decode cX7_readsAll 144 = .ok (.invokevirtual 85, 3) := by decide +kernel
theorem dX7_readsAll_147 : decode cX7_readsAll 147 = .ok (.ifCond .eq 21, 3) := by decide +kernel
theorem dX7_readsAll_150 : decode cX7_readsAll 150 = .ok (.aload_n 0, 1) := by decide +kernel
theorem dX7_readsAll_151 : decode cX7_readsAll 151 = .ok (.bipush 15, 2) := by decide +kernel
theorem dX7_readsAll_153 : decode cX7_readsAll 153 = .ok (.bipush 15, 2) := by decide +kernel
theorem dX7_readsAll_155 : decode cX7_readsAll 155 = .ok (.invokevirtual 71, 3) := by decide +kernel
theorem dX7_readsAll_158 : decode cX7_readsAll 158 = .ok (.ifCond .lt 10, 3) := by decide +kernel
theorem dX7_readsAll_161 : decode cX7_readsAll 161 = .ok (.aload_n 0, 1) := by decide +kernel
theorem dX7_readsAll_162 : decode cX7_readsAll 162 = .ok (.invokevirtual 88, 3) := by decide +kernel
theorem dX7_readsAll_165 : decode cX7_readsAll 165 = .ok (.ifCond .ne 5, 3) := by decide +kernel
theorem dX7_readsAll_168 : decode cX7_readsAll 168 = .ok (.iconst 0, 1) := by decide +kernel
theorem dX7_readsAll_169 : decode cX7_readsAll 169 = .ok (.ireturn, 1) := by decide +kernel
theorem dX7_readsAll_170 : decode cX7_readsAll 170 = .ok (.aload_n 0, 1) := by decide +kernel
theorem dX7_readsAll_171 : decode cX7_readsAll 171 = .ok (.invokevirtual 57, 3) := by decide +kernel
theorem dX7_readsAll_174 : decode cX7_readsAll 174 = .ok (.aload_n 0, 1) := by decide +kernel
theorem dX7_readsAll_175 : decode cX7_readsAll 175 = .ok (.getfield 51, 3) := by decide +kernel
theorem dX7_readsAll_178 : decode cX7_readsAll 178 = .ok (.aload_n 0, 1) := by decide +kernel
theorem dX7_readsAll_179 : decode cX7_readsAll 179 = .ok (.getfield 47, 3) := by decide +kernel
theorem dX7_readsAll_182 : decode cX7_readsAll 182 = .ok (.if_icmp .ne 7, 3) := by decide +kernel
theorem dX7_readsAll_185 : decode cX7_readsAll 185 = .ok (.iconst 1, 1) := by decide +kernel
theorem dX7_readsAll_186 : decode cX7_readsAll 186 = .ok (.goto 4, 3) := by decide +kernel
theorem dX7_readsAll_189 : decode cX7_readsAll 189 = .ok (.iconst 0, 1) := by decide +kernel
theorem dX7_readsAll_190 : decode cX7_readsAll 190 = .ok (.ireturn, 1) := by decide +kernel
theorem dX7_reads_0 : decode cX7_reads 0 = .ok (.aload_n 0, 1) := by decide +kernel
theorem dX7_reads_1 : decode cX7_reads 1 = .ok (.invokevirtual 91, 3) := by decide +kernel
theorem dX7_reads_4 : decode cX7_reads 4 = .ok (.ifCond .ne 11, 3) := by decide +kernel
theorem dX7_reads_7 : decode cX7_reads 7 = .ok (.bipush (-10), 2) := by decide +kernel
theorem dX7_reads_9 : decode cX7_reads 9 = .ok (.aload_n 0, 1) := by decide +kernel
theorem dX7_reads_10 : decode cX7_reads 10 = .ok (.getfield 51, 3) := by decide +kernel
theorem dX7_reads_13 : decode cX7_reads 13 = .ok (.isub, 1) := by decide +kernel
theorem dX7_reads_14 : decode cX7_reads 14 = .ok (.ireturn, 1) := by decide +kernel
theorem dX7_reads_15 : decode cX7_reads 15 = .ok (.iconst 0, 1) := by decide +kernel
theorem dX7_reads_16 : decode cX7_reads 16 = .ok (.istore_n 1, 1) := by decide +kernel
theorem dX7_reads_17 : decode cX7_reads 17 = .ok (.iload_n 1, 1) := by decide +kernel
theorem dX7_reads_18 : decode cX7_reads 18 = .ok (.bipush 49, 2) := by decide +kernel
theorem dX7_reads_20 : decode cX7_reads 20 = .ok (.if_icmp .ge 21, 3) := by decide +kernel
theorem dX7_reads_23 : decode cX7_reads 23 = .ok (.aload_n 0, 1) := by decide +kernel
theorem dX7_reads_24 : decode cX7_reads 24 = .ok (.getfield 7, 3) := by decide +kernel
theorem dX7_reads_27 : decode cX7_reads 27 = .ok (.iload_n 1, 1) := by decide +kernel
theorem dX7_reads_28 : decode cX7_reads 28 = .ok (.aload_n 0, 1) := by decide +kernel
theorem dX7_reads_29 : decode cX7_reads 29 = .ok (.getfield 13, 3) := by decide +kernel
theorem dX7_reads_32 : decode cX7_reads 32 = .ok (.iload_n 1, 1) := by decide +kernel
theorem dX7_reads_33 : decode cX7_reads 33 = .ok (.iaload, 1) := by decide +kernel
theorem dX7_reads_34 : decode cX7_reads 34 = .ok (.iastore, 1) := by decide +kernel
theorem dX7_reads_35 : decode cX7_reads 35 = .ok (.iinc 1 1, 3) := by decide +kernel
theorem dX7_reads_38 : decode cX7_reads 38 = .ok (.goto (-21), 3) := by decide +kernel
theorem dX7_reads_41 : decode cX7_reads 41 = .ok (.aload_n 0, 1) := by decide +kernel
theorem dX7_reads_42 : decode cX7_reads 42 = .ok (.getfield 7, 3) := by decide +kernel
theorem dX7_reads_45 : decode cX7_reads 45 = .ok (.iconst 1, 1) := by decide +kernel
theorem dX7_reads_46 : decode cX7_reads 46 = .ok (.iaload, 1) := by decide +kernel
theorem dX7_reads_47 : decode cX7_reads 47 = .ok (.ireturn, 1) := by decide +kernel
theorem dX7_isThere_0 : decode cX7_isThere 0 = .ok (.aload_n 0, 1) := by decide +kernel
theorem dX7_isThere_1 : decode cX7_isThere 1 = .ok (.getfield 7, 3) := by decide +kernel
theorem dX7_isThere_4 : decode cX7_isThere 4 = .ok (.iconst 0, 1) := by decide +kernel
theorem dX7_isThere_5 : decode cX7_isThere 5 = .ok (.iaload, 1) := by decide +kernel
theorem dX7_isThere_6 : decode cX7_isThere 6 = .ok (.ifCond .le 7, 3) := by decide +kernel
theorem dX7_isThere_9 : decode cX7_isThere 9 = .ok (.iconst 1, 1) := by decide +kernel
theorem dX7_isThere_10 : decode cX7_isThere 10 = .ok (.goto 4, 3) := by decide +kernel
theorem dX7_isThere_13 : decode cX7_isThere 13 = .ok (.iconst 0, 1) := by decide +kernel
theorem dX7_isThere_14 : decode cX7_isThere 14 = .ok (.ireturn, 1) := by decide +kernel
theorem dX7_isGate_0 : decode cX7_isGate 0 = .ok (.iload_n 1, 1) := by decide +kernel
theorem dX7_isGate_1 : decode cX7_isGate 1 = .ok (.iconst 0, 1) := by decide +kernel
theorem dX7_isGate_2 : decode cX7_isGate 2 = .ok (.aload_n 0, 1) := by decide +kernel
theorem dX7_isGate_3 : decode cX7_isGate 3 = .ok (.invokevirtual 94, 3) := by decide +kernel
theorem dX7_isGate_6 : decode cX7_isGate 6 = .ok (.ifCond .eq 14, 3) := by decide +kernel
theorem dX7_isGate_9 : decode cX7_isGate 9 = .ok (.aload_n 0, 1) := by decide +kernel
theorem dX7_isGate_10 : decode cX7_isGate 10 = .ok (.getfield 7, 3) := by decide +kernel
theorem dX7_isGate_13 : decode cX7_isGate 13 = .ok (.iconst 1, 1) := by decide +kernel
theorem dX7_isGate_14 : decode cX7_isGate 14 = .ok (.iaload, 1) := by decide +kernel
theorem dX7_isGate_15 : decode cX7_isGate 15 = .ok (.iconst 1, 1) := by decide +kernel
theorem dX7_isGate_16 : decode cX7_isGate 16 = .ok (.isub, 1) := by decide +kernel
theorem dX7_isGate_17 : decode cX7_isGate 17 = .ok (.goto 5, 3) := by decide +kernel
theorem dX7_isGate_20 : decode cX7_isGate 20 = .ok (.bipush 11, 2) := by decide +kernel
theorem dX7_isGate_22 : decode cX7_isGate 22 = .ok (.invokestatic 39, 3) := by decide +kernel
theorem dX7_isGate_25 : decode cX7_isGate 25 = .ok (.ireturn, 1) := by decide +kernel
theorem dX7_isInput_0 : decode cX7_isInput 0 = .ok (.iload_n 1, 1) := by decide +kernel
theorem dX7_isInput_1 : decode cX7_isInput 1 = .ok (.iconst 0, 1) := by decide +kernel
theorem dX7_isInput_2 : decode cX7_isInput 2 = .ok (.aload_n 0, 1) := by decide +kernel
theorem dX7_isInput_3 : decode cX7_isInput 3 = .ok (.invokevirtual 94, 3) := by decide +kernel
theorem dX7_isInput_6 : decode cX7_isInput 6 = .ok (.ifCond .eq 16, 3) := by decide +kernel
theorem dX7_isInput_9 : decode cX7_isInput 9 = .ok (.iconst 1, 1) := by decide +kernel
theorem dX7_isInput_10 : decode cX7_isInput 10 = .ok (.aload_n 0, 1) := by decide +kernel
theorem dX7_isInput_11 : decode cX7_isInput 11 = .ok (.getfield 7, 3) := by decide +kernel
theorem dX7_isInput_14 : decode cX7_isInput 14 = .ok (.iconst 0, 1) := by decide +kernel
theorem dX7_isInput_15 : decode cX7_isInput 15 = .ok (.iaload, 1) := by decide +kernel
theorem dX7_isInput_16 : decode cX7_isInput 16 = .ok (.ishl, 1) := by decide +kernel
theorem dX7_isInput_17 : decode cX7_isInput 17 = .ok (.iconst 1, 1) := by decide +kernel
theorem dX7_isInput_18 : decode cX7_isInput 18 = .ok (.isub, 1) := by decide +kernel
theorem dX7_isInput_19 : decode cX7_isInput 19 = .ok (.goto 5, 3) := by decide +kernel
theorem dX7_isInput_22 : decode cX7_isInput 22 = .ok (.bipush 63, 2) := by decide +kernel
theorem dX7_isInput_24 : decode cX7_isInput 24 = .ok (.invokestatic 39, 3) := by decide +kernel
theorem dX7_isInput_27 : decode cX7_isInput 27 = .ok (.ireturn, 1) := by decide +kernel
theorem dX7_isStage_0 : decode cX7_isStage 0 = .ok (.iload_n 1, 1) := by decide +kernel
theorem dX7_isStage_1 : decode cX7_isStage 1 = .ok (.iconst 0, 1) := by decide +kernel
theorem dX7_isStage_2 : decode cX7_isStage 2 = .ok (.aload_n 0, 1) := by decide +kernel
theorem dX7_isStage_3 : decode cX7_isStage 3 = .ok (.invokevirtual 94, 3) := by decide +kernel
theorem dX7_isStage_6 : decode cX7_isStage 6 = .ok (.ifCond .eq 12, 3) := by decide +kernel
theorem dX7_isStage_9 : decode cX7_isStage 9 = .ok (.aload_n 0, 1) := by decide +kernel
theorem dX7_isStage_10 : decode cX7_isStage 10 = .ok (.getfield 7, 3) := by decide +kernel
theorem dX7_isStage_13 : decode cX7_isStage 13 = .ok (.iconst 1, 1) := by decide +kernel
theorem dX7_isStage_14 : decode cX7_isStage 14 = .ok (.iaload, 1) := by decide +kernel
theorem dX7_isStage_15 : decode cX7_isStage 15 = .ok (.goto 5, 3) := by decide +kernel
theorem dX7_isStage_18 : decode cX7_isStage 18 = .ok (.bipush 12, 2) := by decide +kernel
theorem dX7_isStage_20 : decode cX7_isStage 20 = .ok (.invokestatic 39, 3) := by decide +kernel
theorem dX7_isStage_23 : decode cX7_isStage 23 = .ok (.ireturn, 1) := by decide +kernel
theorem dX7_none_0 : decode cX7_none 0 = .ok (.aload_n 0, 1) := by decide +kernel
theorem dX7_none_1 : decode cX7_none 1 = .ok (.iload_n 1, 1) := by decide +kernel
theorem dX7_none_2 : decode cX7_none 2 = .ok (.ifCond .eq 8, 3) := by decide +kernel
theorem dX7_none_5 : decode cX7_none 5 = .ok (.bipush (-3), 2) := by decide +kernel
theorem dX7_none_7 : decode cX7_none 7 = .ok (.goto 5, 3) := by decide +kernel
theorem dX7_none_10 : decode cX7_none 10 = .ok (.bipush (-2), 2) := by decide +kernel
theorem dX7_none_12 : decode cX7_none 12 = .ok (.invokevirtual 43, 3) := by decide +kernel
theorem dX7_none_15 : decode cX7_none 15 = .ok (.ireturn, 1) := by decide +kernel
theorem dX7_kind_0 : decode cX7_kind 0 = .ok (.aload_n 0, 1) := by decide +kernel
theorem dX7_kind_1 : decode cX7_kind 1 = .ok (.iload_n 1, 1) := by decide +kernel
theorem dX7_kind_2 : decode cX7_kind 2 = .ok (.invokevirtual 97, 3) := by decide +kernel
theorem dX7_kind_5 : decode cX7_kind 5 = .ok (.ifCond .eq 53, 3) := by decide +kernel
theorem dX7_kind_8 : decode cX7_kind 8 = .ok (.iload_n 2, 1) := by decide +kernel
theorem dX7_kind_9 : decode cX7_kind 9 = .ok (.iconst 0, 1) := by decide +kernel
theorem dX7_kind_10 : decode cX7_kind 10 = .ok (.bipush 7, 2) := by decide +kernel
theorem dX7_kind_12 : decode cX7_kind 12 = .ok (.invokestatic 39, 3) := by decide +kernel
theorem dX7_kind_15 : decode cX7_kind 15 = .ok (.ifCond .eq 43, 3) := by decide +kernel
theorem dX7_kind_18 : decode cX7_kind 18 = .ok (.aload_n 0, 1) := by decide +kernel
theorem dX7_kind_19 : decode cX7_kind 19 = .ok (.invokevirtual 94, 3) := by decide +kernel
theorem dX7_kind_22 : decode cX7_kind 22 = .ok (.ifCond .eq 32, 3) := by decide +kernel
theorem dX7_kind_25 : decode cX7_kind 25 = .ok (.aload_n 0, 1) := by decide +kernel
theorem dX7_kind_26 : decode cX7_kind 26 = .ok (.getfield 7, 3) := by decide +kernel
theorem dX7_kind_29 : decode cX7_kind 29 = .ok (.bipush 6, 2) := by decide +kernel
theorem dX7_kind_31 : decode cX7_kind 31 = .ok (.iload_n 1, 1) := by decide +kernel
theorem dX7_kind_32 : decode cX7_kind 32 = .ok (.iadd, 1) := by decide +kernel
theorem dX7_kind_33 : decode cX7_kind 33 = .ok (.iaload, 1) := by decide +kernel
theorem dX7_kind_34 : decode cX7_kind 34 = .ok (.ifCond .ne 7, 3) := by decide +kernel
theorem dX7_kind_37 : decode cX7_kind 37 = .ok (.iconst 1, 1) := by decide +kernel
theorem dX7_kind_38 : decode cX7_kind 38 = .ok (.goto 4, 3) := by decide +kernel
theorem dX7_kind_41 : decode cX7_kind 41 = .ok (.iconst 0, 1) := by decide +kernel
theorem dX7_kind_42 : decode cX7_kind 42 = .ok (.iload_n 2, 1) := by decide +kernel
theorem dX7_kind_43 : decode cX7_kind 43 = .ok (.ifCond .ne 7, 3) := by decide +kernel
theorem dX7_kind_46 : decode cX7_kind 46 = .ok (.iconst 1, 1) := by decide +kernel
theorem dX7_kind_47 : decode cX7_kind 47 = .ok (.goto 4, 3) := by decide +kernel
theorem dX7_kind_50 : decode cX7_kind 50 = .ok (.iconst 0, 1) := by decide +kernel
theorem dX7_kind_51 : decode cX7_kind 51 = .ok (.if_icmp .ne 7, 3) := by decide +kernel
theorem dX7_kind_54 : decode cX7_kind 54 = .ok (.iconst 1, 1) := by decide +kernel
theorem dX7_kind_55 : decode cX7_kind 55 = .ok (.goto 4, 3) := by decide +kernel
theorem dX7_kind_58 : decode cX7_kind 58 = .ok (.iconst 0, 1) := by decide +kernel
theorem dX7_kind_59 : decode cX7_kind 59 = .ok (.istore_n 3, 1) := by decide +kernel
theorem dX7_kind_60 : decode cX7_kind 60 = .ok (.iload_n 3, 1) := by decide +kernel
theorem dX7_kind_61 : decode cX7_kind 61 = .ok (.ifCond .eq 10, 3) := by decide +kernel
theorem dX7_kind_64 : decode cX7_kind 64 = .ok (.aload_n 0, 1) := by decide +kernel
theorem dX7_kind_65 : decode cX7_kind 65 = .ok (.invokevirtual 94, 3) := by decide +kernel
theorem dX7_kind_68 : decode cX7_kind 68 = .ok (.ifCond .ne 9, 3) := by decide +kernel
theorem dX7_kind_71 : decode cX7_kind 71 = .ok (.aload_n 0, 1) := by decide +kernel
theorem dX7_kind_72 : decode cX7_kind 72 = .ok (.iload_n 3, 1) := by decide +kernel
theorem dX7_kind_73 : decode cX7_kind 73 = .ok (.invokevirtual 100, 3) := by decide +kernel
theorem dX7_kind_76 : decode cX7_kind 76 = .ok (.ireturn, 1) := by decide +kernel
theorem dX7_kind_77 : decode cX7_kind 77 = .ok (.aload_n 0, 1) := by decide +kernel
theorem dX7_kind_78 : decode cX7_kind 78 = .ok (.getfield 7, 3) := by decide +kernel
theorem dX7_kind_81 : decode cX7_kind 81 = .ok (.bipush 6, 2) := by decide +kernel
theorem dX7_kind_83 : decode cX7_kind 83 = .ok (.iload_n 1, 1) := by decide +kernel
theorem dX7_kind_84 : decode cX7_kind 84 = .ok (.iadd, 1) := by decide +kernel
theorem dX7_kind_85 : decode cX7_kind 85 = .ok (.iaload, 1) := by decide +kernel
theorem dX7_kind_86 : decode cX7_kind 86 = .ok (.istore 4, 2) := by decide +kernel
theorem dX7_kind_88 : decode cX7_kind 88 = .ok (.aload_n 0, 1) := by decide +kernel
theorem dX7_kind_89 : decode cX7_kind 89 = .ok (.getfield 7, 3) := by decide +kernel
theorem dX7_kind_92 : decode cX7_kind 92 = .ok (.bipush 6, 2) := by decide +kernel
theorem dX7_kind_94 : decode cX7_kind 94 = .ok (.iload_n 1, 1) := by decide +kernel
theorem dX7_kind_95 : decode cX7_kind 95 = .ok (.iadd, 1) := by decide +kernel
theorem dX7_kind_96 : decode cX7_kind 96 = .ok (.iload_n 2, 1) := by decide +kernel
theorem dX7_kind_97 : decode cX7_kind 97 = .ok (.iastore, 1) := by decide +kernel
theorem dX7_kind_98 : decode cX7_kind 98 = .ok (.iload 4, 2) := by decide +kernel
theorem dX7_kind_100 : decode cX7_kind 100 = .ok (.ireturn, 1) := by decide +kernel
theorem dX7_wire_0 : decode cX7_wire 0 = .ok (.aload_n 0, 1) := by decide +kernel
theorem dX7_wire_1 : decode cX7_wire 1 = .ok (.iload_n 1, 1) := by decide +kernel
theorem dX7_wire_2 : decode cX7_wire 2 = .ok (.invokevirtual 97, 3) := by decide +kernel
theorem dX7_wire_5 : decode cX7_wire 5 = .ok (.ifCond .eq 70, 3) := by decide +kernel
theorem dX7_wire_8 : decode cX7_wire 8 = .ok (.iload_n 2, 1) := by decide +kernel
theorem dX7_wire_9 : decode cX7_wire 9 = .ok (.iconst 0, 1) := by decide +kernel
theorem dX7_wire_10 : decode cX7_wire 10 = .ok (.iconst 1, 1) := by decide +kernel
theorem dX7_wire_11 : decode cX7_wire 11 = .ok (.invokestatic 39, 3) := by decide +kernel
theorem dX7_wire_14 : decode cX7_wire 14 = .ok (.ifCond .eq 61, 3) := by decide +kernel
theorem dX7_wire_17 : decode cX7_wire 17 = .ok (.aload_n 0, 1) := by decide +kernel
theorem dX7_wire_18 : decode cX7_wire 18 = .ok (.invokevirtual 94, 3) := by decide +kernel
theorem dX7_wire_21 : decode cX7_wire 21 = .ok (.ifCond .eq 40, 3) := by decide +kernel
theorem dX7_wire_24 : decode cX7_wire 24 = .ok (.iload_n 3, 1) := by decide +kernel
theorem dX7_wire_25 : decode cX7_wire 25 = .ok (.iconst 0, 1) := by decide +kernel
theorem dX7_wire_26 : decode cX7_wire 26 = .ok (.aload_n 0, 1) := by decide +kernel
theorem dX7_wire_27 : decode cX7_wire 27 = .ok (.getfield 7, 3) := by decide +kernel
theorem dX7_wire_30 : decode cX7_wire 30 = .ok (.iconst 0, 1) := by decide +kernel
theorem dX7_wire_31 : decode cX7_wire 31 = .ok (.iaload, 1) := by decide +kernel
theorem dX7_wire_32 : decode cX7_wire 32 = .ok (.iload_n 1, 1) := by decide +kernel
theorem dX7_wire_33 : decode cX7_wire 33 = .ok (.iadd, 1) := by decide +kernel
theorem dX7_wire_34 : decode cX7_wire 34 = .ok (.iconst 1, 1) := by decide +kernel
theorem dX7_wire_35 : decode cX7_wire 35 = .ok (.isub, 1) := by decide +kernel
theorem dX7_wire_36 : decode cX7_wire 36 = .ok (.invokestatic 39, 3) := by decide +kernel
theorem dX7_wire_39 : decode cX7_wire 39 = .ok (.ifCond .eq 36, 3) := by decide +kernel
theorem dX7_wire_42 : decode cX7_wire 42 = .ok (.iload_n 2, 1) := by decide +kernel
theorem dX7_wire_43 : decode cX7_wire 43 = .ok (.ifCond .eq 28, 3) := by decide +kernel
theorem dX7_wire_46 : decode cX7_wire 46 = .ok (.aload_n 0, 1) := by decide +kernel
theorem dX7_wire_47 : decode cX7_wire 47 = .ok (.getfield 7, 3) := by decide +kernel
theorem dX7_wire_50 : decode cX7_wire 50 = .ok (.bipush 6, 2) := by decide +kernel
theorem dX7_wire_52 : decode cX7_wire 52 = .ok (.iload_n 1, 1) := by decide +kernel
theorem dX7_wire_53 : decode cX7_wire 53 = .ok (.iadd, 1) := by decide +kernel
theorem dX7_wire_54 : decode cX7_wire 54 = .ok (.iaload, 1) := by decide +kernel
theorem dX7_wire_55 : decode cX7_wire 55 = .ok (.ifCond .eq 20, 3) := by decide +kernel
theorem dX7_wire_58 : decode cX7_wire 58 = .ok (.goto 13, 3) := by decide +kernel
theorem dX7_wire_61 : decode cX7_wire 61 = .ok (.iload_n 3, 1) := by decide +kernel
theorem dX7_wire_62 : decode cX7_wire 62 = .ok (.iconst 0, 1) := by decide +kernel
theorem dX7_wire_63 : decode cX7_wire 63 = .ok (.bipush 17, 2) := by decide +kernel
theorem dX7_wire_65 : decode cX7_wire 65 = .ok (.invokestatic 39, 3) := by decide +kernel
theorem dX7_wire_68 : decode cX7_wire 68 = .ok (.ifCond .eq 7, 3) := by decide +kernel
theorem dX7_wire_71 : decode cX7_wire 71 = .ok (.iconst 1, 1) := by decide +kernel
theorem dX7_wire_72 : decode cX7_wire 72 = .ok (.goto 4, 3) := by decide +kernel
theorem dX7_wire_75 : decode cX7_wire 75 = .ok (.iconst 0, 1) := by decide +kernel
theorem dX7_wire_76 : decode cX7_wire 76 = .ok (.istore 4, 2) := by decide +kernel
theorem dX7_wire_78 : decode cX7_wire 78 = .ok (.iload 4, 2) := by decide +kernel
theorem dX7_wire_80 : decode cX7_wire 80 = .ok (.ifCond .eq 10, 3) := by decide +kernel
theorem dX7_wire_83 : decode cX7_wire 83 = .ok (.aload_n 0, 1) := by decide +kernel
theorem dX7_wire_84 : decode cX7_wire 84 = .ok (.invokevirtual 94, 3) := by decide +kernel
theorem dX7_wire_87 : decode cX7_wire 87 = .ok (.ifCond .ne 10, 3) := by decide +kernel
theorem dX7_wire_90 : decode cX7_wire 90 = .ok (.aload_n 0, 1) := by decide +kernel
theorem dX7_wire_91 : decode cX7_wire 91 = .ok (.iload 4, 2) := by decide +kernel
theorem dX7_wire_93 : decode cX7_wire 93 = .ok (.invokevirtual 100, 3) := by decide +kernel
theorem dX7_wire_96 : decode cX7_wire 96 = .ok (.ireturn, 1) := by decide +kernel
theorem dX7_wire_97 : decode cX7_wire 97 = .ok (.iload_n 2, 1) := by decide +kernel
theorem dX7_wire_98 : decode cX7_wire 98 = .ok (.ifCond .ne 8, 3) := by decide +kernel
theorem dX7_wire_101 : decode cX7_wire 101 = .ok (.bipush 18, 2) := by decide +kernel
theorem dX7_wire_103 : decode cX7_wire 103 = .ok (.goto 5, 3) := by decide +kernel
theorem dX7_wire_106 : decode cX7_wire 106 = .ok (.bipush 30, 2) := by decide +kernel
theorem dX7_wire_108 : decode cX7_wire 108 = .ok (.iload_n 1, 1) := by decide +kernel
theorem dX7_wire_109 : decode cX7_wire 109 = .ok (.iadd, 1) := by decide +kernel
theorem dX7_wire_110 : decode cX7_wire 110 = .ok (.istore 5, 2) := by decide +kernel
theorem dX7_wire_112 : decode cX7_wire 112 = .ok (.aload_n 0, 1) := by decide +kernel
theorem dX7_wire_113 : decode cX7_wire 113 = .ok (.getfield 7, 3) := by decide +kernel
theorem dX7_wire_116 : decode cX7_wire 116 = .ok (.iload 5, 2) := by decide +kernel
theorem dX7_wire_118 : decode cX7_wire 118 = .ok (.iaload, 1) := by decide +kernel
theorem dX7_wire_119 : decode cX7_wire 119 = .ok (.istore 6, 2) := by decide +kernel
theorem dX7_wire_121 : decode cX7_wire 121 = .ok (.aload_n 0, 1) := by decide +kernel
theorem dX7_wire_122 : decode cX7_wire 122 = .ok (.getfield 7, 3) := by decide +kernel
theorem dX7_wire_125 : decode cX7_wire 125 = .ok (.iload 5, 2) := by decide +kernel
theorem dX7_wire_127 : decode cX7_wire 127 = .ok (.iload_n 3, 1) := by decide +kernel
theorem dX7_wire_128 : decode cX7_wire 128 = .ok (.iastore, 1) := by decide +kernel
theorem dX7_wire_129 : decode cX7_wire 129 = .ok (.iload 6, 2) := by decide +kernel
theorem dX7_wire_131 : decode cX7_wire 131 = .ok (.ireturn, 1) := by decide +kernel
theorem dX7_of_0 : decode cX7_of 0 = .ok (.aload_n 0, 1) := by decide +kernel
theorem dX7_of_1 : decode cX7_of 1 = .ok (.iload_n 1, 1) := by decide +kernel
theorem dX7_of_2 : decode cX7_of 2 = .ok (.invokevirtual 97, 3) := by decide +kernel
theorem dX7_of_5 : decode cX7_of 5 = .ok (.ifCond .eq 16, 3) := by decide +kernel
theorem dX7_of_8 : decode cX7_of 8 = .ok (.iload_n 2, 1) := by decide +kernel
theorem dX7_of_9 : decode cX7_of 9 = .ok (.iconst 0, 1) := by decide +kernel
theorem dX7_of_10 : decode cX7_of 10 = .ok (.iconst 3, 1) := by decide +kernel
theorem dX7_of_11 : decode cX7_of 11 = .ok (.invokestatic 39, 3) := by decide +kernel
theorem dX7_of_14 : decode cX7_of 14 = .ok (.ifCond .eq 7, 3) := by decide +kernel
theorem dX7_of_17 : decode cX7_of 17 = .ok (.iconst 1, 1) := by decide +kernel
theorem dX7_of_18 : decode cX7_of 18 = .ok (.goto 4, 3) := by decide +kernel
theorem dX7_of_21 : decode cX7_of 21 = .ok (.iconst 0, 1) := by decide +kernel
theorem dX7_of_22 : decode cX7_of 22 = .ok (.istore_n 3, 1) := by decide +kernel
theorem dX7_of_23 : decode cX7_of 23 = .ok (.iload_n 3, 1) := by decide +kernel
theorem dX7_of_24 : decode cX7_of 24 = .ok (.ifCond .eq 10, 3) := by decide +kernel
theorem dX7_of_27 : decode cX7_of 27 = .ok (.aload_n 0, 1) := by decide +kernel
theorem dX7_of_28 : decode cX7_of 28 = .ok (.invokevirtual 94, 3) := by decide +kernel
theorem dX7_of_31 : decode cX7_of 31 = .ok (.ifCond .ne 9, 3) := by decide +kernel
theorem dX7_of_34 : decode cX7_of 34 = .ok (.aload_n 0, 1) := by decide +kernel
theorem dX7_of_35 : decode cX7_of 35 = .ok (.iload_n 3, 1) := by decide +kernel
theorem dX7_of_36 : decode cX7_of 36 = .ok (.invokevirtual 100, 3) := by decide +kernel
theorem dX7_of_39 : decode cX7_of 39 = .ok (.ireturn, 1) := by decide +kernel
theorem dX7_of_40 : decode cX7_of 40 = .ok (.iload_n 2, 1) := by decide +kernel
theorem dX7_of_41 : decode cX7_of 41 = .ok (.iconst 3, 1) := by decide +kernel
theorem dX7_of_42 : decode cX7_of 42 = .ok (.if_icmp .ge 46, 3) := by decide +kernel
theorem dX7_of_45 : decode cX7_of 45 = .ok (.iload_n 2, 1) := by decide +kernel
theorem dX7_of_46 : decode cX7_of 46 = .ok (.ifCond .ne 15, 3) := by decide +kernel
theorem dX7_of_49 : decode cX7_of 49 = .ok (.aload_n 0, 1) := by decide +kernel
theorem dX7_of_50 : decode cX7_of 50 = .ok (.getfield 7, 3) := by decide +kernel
theorem dX7_of_53 : decode cX7_of 53 = .ok (.bipush 6, 2) := by decide +kernel
theorem dX7_of_55 : decode cX7_of 55 = .ok (.iload_n 1, 1) := by decide +kernel
theorem dX7_of_56 : decode cX7_of 56 = .ok (.iadd, 1) := by decide +kernel
theorem dX7_of_57 : decode cX7_of 57 = .ok (.iaload, 1) := by decide +kernel
theorem dX7_of_58 : decode cX7_of 58 = .ok (.goto 29, 3) := by decide +kernel
theorem dX7_of_61 : decode cX7_of 61 = .ok (.iload_n 2, 1) := by decide +kernel
theorem dX7_of_62 : decode cX7_of 62 = .ok (.iconst 1, 1) := by decide +kernel
theorem dX7_of_63 : decode cX7_of 63 = .ok (.if_icmp .ne 15, 3) := by decide +kernel
theorem dX7_of_66 : decode cX7_of 66 = .ok (.aload_n 0, 1) := by decide +kernel
theorem dX7_of_67 : decode cX7_of 67 = .ok (.getfield 7, 3) := by decide +kernel
theorem dX7_of_70 : decode cX7_of 70 = .ok (.bipush 18, 2) := by decide +kernel
theorem dX7_of_72 : decode cX7_of 72 = .ok (.iload_n 1, 1) := by decide +kernel
theorem dX7_of_73 : decode cX7_of 73 = .ok (.iadd, 1) := by decide +kernel
theorem dX7_of_74 : decode cX7_of 74 = .ok (.iaload, 1) := by decide +kernel
theorem dX7_of_75 : decode cX7_of 75 = .ok (.goto 12, 3) := by decide +kernel
theorem dX7_of_78 : decode cX7_of 78 = .ok (.aload_n 0, 1) := by decide +kernel
theorem dX7_of_79 : decode cX7_of 79 = .ok (.getfield 7, 3) := by decide +kernel
theorem dX7_of_82 : decode cX7_of 82 = .ok (.bipush 30, 2) := by decide +kernel
theorem dX7_of_84 : decode cX7_of 84 = .ok (.iload_n 1, 1) := by decide +kernel
theorem dX7_of_85 : decode cX7_of 85 = .ok (.iadd, 1) := by decide +kernel
theorem dX7_of_86 : decode cX7_of 86 = .ok (.iaload, 1) := by decide +kernel
theorem dX7_of_87 : decode cX7_of 87 = .ok (.ireturn, 1) := by decide +kernel
theorem dX7_of_88 : decode cX7_of 88 = .ok (.aload_n 0, 1) := by decide +kernel
theorem dX7_of_89 : decode cX7_of 89 = .ok (.getfield 7, 3) := by decide +kernel
theorem dX7_of_92 : decode cX7_of 92 = .ok (.iconst 0, 1) := by decide +kernel
theorem dX7_of_93 : decode cX7_of 93 = .ok (.iaload, 1) := by decide +kernel
theorem dX7_of_94 : decode cX7_of 94 = .ok (.iload_n 1, 1) := by decide +kernel
theorem dX7_of_95 : decode cX7_of 95 = .ok (.iadd, 1) := by decide +kernel
theorem dX7_of_96 : decode cX7_of 96 = .ok (.istore 4, 2) := by decide +kernel
theorem dX7_of_98 : decode cX7_of 98 = .ok (.iconst 0, 1) := by decide +kernel
theorem dX7_of_99 : decode cX7_of 99 = .ok (.istore 5, 2) := by decide +kernel
theorem dX7_of_101 : decode cX7_of 101 = .ok (.iconst 0, 1) := by decide +kernel
theorem dX7_of_102 : decode cX7_of 102 = .ok (.istore 6, 2) := by decide +kernel
theorem dX7_of_104 : decode cX7_of 104 = .ok (.iload 6, 2) := by decide +kernel
theorem dX7_of_106 : decode cX7_of 106 = .ok (.aload_n 0, 1) := by decide +kernel
theorem dX7_of_107 : decode cX7_of 107 = .ok (.getfield 7, 3) := by decide +kernel
theorem dX7_of_110 : decode cX7_of 110 = .ok (.iconst 1, 1) := by decide +kernel
theorem dX7_of_111 : decode cX7_of 111 = .ok (.iaload, 1) := by decide +kernel
theorem dX7_of_112 : decode cX7_of 112 = .ok (.if_icmp .ge 49, 3) := by decide +kernel
theorem dX7_of_115 : decode cX7_of 115 = .ok (.iload 5, 2) := by decide +kernel
theorem dX7_of_117 : decode cX7_of 117 = .ok (.aload_n 0, 1) := by decide +kernel
theorem dX7_of_118 : decode cX7_of 118 = .ok (.getfield 7, 3) := by decide +kernel
theorem dX7_of_121 : decode cX7_of 121 = .ok (.bipush 18, 2) := by decide +kernel
theorem dX7_of_123 : decode cX7_of 123 = .ok (.iload 6, 2) := by decide +kernel
theorem dX7_of_125 : decode cX7_of 125 = .ok (.iadd, 1) := by decide +kernel
theorem dX7_of_126 : decode cX7_of 126 = .ok (.iaload, 1) := by decide +kernel
theorem dX7_of_127 : decode cX7_of 127 = .ok (.iload 4, 2) := by decide +kernel
theorem dX7_of_129 : decode cX7_of 129 = .ok (.if_icmp .eq 18, 3) := by decide +kernel
theorem dX7_of_132 : decode cX7_of 132 = .ok (.aload_n 0, 1) := by decide +kernel
theorem dX7_of_133 : decode cX7_of 133 = .ok (.getfield 7, 3) := by decide +kernel
theorem dX7_of_136 : decode cX7_of 136 = .ok (.bipush 30, 2) := by decide +kernel
theorem dX7_of_138 : decode cX7_of 138 = .ok (.iload 6, 2) := by decide +kernel
theorem dX7_of_140 : decode cX7_of 140 = .ok (.iadd, 1) := by decide +kernel
theorem dX7_of_141 : decode cX7_of 141 = .ok (.iaload, 1) := by decide +kernel
theorem dX7_of_142 : decode cX7_of 142 = .ok (.iload 4, 2) := by decide +kernel
theorem dX7_of_144 : decode cX7_of 144 = .ok (.if_icmp .ne 7, 3) := by decide +kernel
theorem dX7_of_147 : decode cX7_of 147 = .ok (.iconst 1, 1) := by decide +kernel
theorem dX7_of_148 : decode cX7_of 148 = .ok (.goto 4, 3) := by decide +kernel
theorem dX7_of_151 : decode cX7_of 151 = .ok (.iconst 0, 1) := by decide +kernel
theorem dX7_of_152 : decode cX7_of 152 = .ok (.iadd, 1) := by decide +kernel
theorem dX7_of_153 : decode cX7_of 153 = .ok (.istore 5, 2) := by decide +kernel
theorem dX7_of_155 : decode cX7_of 155 = .ok (.iinc 6 1, 3) := by decide +kernel
theorem dX7_of_158 : decode cX7_of 158 = .ok (.goto (-54), 3) := by decide +kernel
theorem dX7_of_161 : decode cX7_of 161 = .ok (.iconst 0, 1) := by decide +kernel
theorem dX7_of_162 : decode cX7_of 162 = .ok (.istore 6, 2) := by decide +kernel
theorem dX7_of_164 : decode cX7_of 164 = .ok (.iload 6, 2) := by decide +kernel
theorem dX7_of_166 : decode cX7_of 166 = .ok (.aload_n 0, 1) := by decide +kernel
theorem dX7_of_167 : decode cX7_of 167 = .ok (.getfield 7, 3) := by decide +kernel
theorem dX7_of_170 : decode cX7_of 170 = .ok (.iconst 2, 1) := by decide +kernel
theorem dX7_of_171 : decode cX7_of 171 = .ok (.iaload, 1) := by decide +kernel
theorem dX7_of_172 : decode cX7_of 172 = .ok (.if_icmp .ge 34, 3) := by decide +kernel
theorem dX7_of_175 : decode cX7_of 175 = .ok (.iload 5, 2) := by decide +kernel
theorem dX7_of_177 : decode cX7_of 177 = .ok (.aload_n 0, 1) := by decide +kernel
theorem dX7_of_178 : decode cX7_of 178 = .ok (.getfield 7, 3) := by decide +kernel
theorem dX7_of_181 : decode cX7_of 181 = .ok (.bipush 42, 2) := by decide +kernel
theorem dX7_of_183 : decode cX7_of 183 = .ok (.iload 6, 2) := by decide +kernel
theorem dX7_of_185 : decode cX7_of 185 = .ok (.iadd, 1) := by decide +kernel
theorem dX7_of_186 : decode cX7_of 186 = .ok (.iaload, 1) := by decide +kernel
theorem dX7_of_187 : decode cX7_of 187 = .ok (.iload 4, 2) := by decide +kernel
theorem dX7_of_189 : decode cX7_of 189 = .ok (.if_icmp .ne 7, 3) := by decide +kernel
theorem dX7_of_192 : decode cX7_of 192 = .ok (.iconst 1, 1) := by decide +kernel
theorem dX7_of_193 : decode cX7_of 193 = .ok (.goto 4, 3) := by decide +kernel
theorem dX7_of_196 : decode cX7_of 196 = .ok (.iconst 0, 1) := by decide +kernel
theorem dX7_of_197 : decode cX7_of 197 = .ok (.iadd, 1) := by decide +kernel
theorem dX7_of_198 : decode cX7_of 198 = .ok (.istore 5, 2) := by decide +kernel
theorem dX7_of_200 : decode cX7_of 200 = .ok (.iinc 6 1, 3) := by decide +kernel
theorem dX7_of_203 : decode cX7_of 203 = .ok (.goto (-39), 3) := by decide +kernel
theorem dX7_of_206 : decode cX7_of 206 = .ok (.iload 5, 2) := by decide +kernel
theorem dX7_of_208 : decode cX7_of 208 = .ok (.ireturn, 1) := by decide +kernel
theorem dX7_told_0 : decode cX7_told 0 = .ok (.iload_n 1, 1) := by decide +kernel
theorem dX7_told_1 : decode cX7_told 1 = .ok (.ifCond .ne 31, 3) := by decide +kernel
theorem dX7_told_4 : decode cX7_told 4 = .ok (.iload_n 2, 1) := by decide +kernel
theorem dX7_told_5 : decode cX7_told 5 = .ok (.iconst 0, 1) := by decide +kernel
theorem dX7_told_6 : decode cX7_told 6 = .ok (.aload_n 0, 1) := by decide +kernel
theorem dX7_told_7 : decode cX7_told 7 = .ok (.invokevirtual 94, 3) := by decide +kernel
theorem dX7_told_10 : decode cX7_told 10 = .ok (.ifCond .eq 14, 3) := by decide +kernel
theorem dX7_told_13 : decode cX7_told 13 = .ok (.aload_n 0, 1) := by decide +kernel
theorem dX7_told_14 : decode cX7_told 14 = .ok (.getfield 7, 3) := by decide +kernel
theorem dX7_told_17 : decode cX7_told 17 = .ok (.iconst 2, 1) := by decide +kernel
theorem dX7_told_18 : decode cX7_told 18 = .ok (.iaload, 1) := by decide +kernel
theorem dX7_told_19 : decode cX7_told 19 = .ok (.iconst 1, 1) := by decide +kernel
theorem dX7_told_20 : decode cX7_told 20 = .ok (.isub, 1) := by decide +kernel
theorem dX7_told_21 : decode cX7_told 21 = .ok (.goto 5, 3) := by decide +kernel
theorem dX7_told_24 : decode cX7_told 24 = .ok (.bipush 6, 2) := by decide +kernel
theorem dX7_told_26 : decode cX7_told 26 = .ok (.invokestatic 39, 3) := by decide +kernel
theorem dX7_told_29 : decode cX7_told 29 = .ok (.goto 21, 3) := by decide +kernel
theorem dX7_told_32 : decode cX7_told 32 = .ok (.iload_n 1, 1) := by decide +kernel
theorem dX7_told_33 : decode cX7_told 33 = .ok (.iconst 1, 1) := by decide +kernel
theorem dX7_told_34 : decode cX7_told 34 = .ok (.iconst 3, 1) := by decide +kernel
theorem dX7_told_35 : decode cX7_told 35 = .ok (.invokestatic 39, 3) := by decide +kernel
theorem dX7_told_38 : decode cX7_told 38 = .ok (.ifCond .eq 11, 3) := by decide +kernel
theorem dX7_told_41 : decode cX7_told 41 = .ok (.iload_n 2, 1) := by decide +kernel
theorem dX7_told_42 : decode cX7_told 42 = .ok (.ifCond .ne 7, 3) := by decide +kernel
theorem dX7_told_45 : decode cX7_told 45 = .ok (.iconst 1, 1) := by decide +kernel
theorem dX7_told_46 : decode cX7_told 46 = .ok (.goto 4, 3) := by decide +kernel
theorem dX7_told_49 : decode cX7_told 49 = .ok (.iconst 0, 1) := by decide +kernel
theorem dX7_told_50 : decode cX7_told 50 = .ok (.istore_n 3, 1) := by decide +kernel
theorem dX7_told_51 : decode cX7_told 51 = .ok (.iload_n 3, 1) := by decide +kernel
theorem dX7_told_52 : decode cX7_told 52 = .ok (.ifCond .eq 10, 3) := by decide +kernel
theorem dX7_told_55 : decode cX7_told 55 = .ok (.aload_n 0, 1) := by decide +kernel
theorem dX7_told_56 : decode cX7_told 56 = .ok (.invokevirtual 94, 3) := by decide +kernel
theorem dX7_told_59 : decode cX7_told 59 = .ok (.ifCond .ne 9, 3) := by decide +kernel
theorem dX7_told_62 : decode cX7_told 62 = .ok (.aload_n 0, 1) := by decide +kernel
theorem dX7_told_63 : decode cX7_told 63 = .ok (.iload_n 3, 1) := by decide +kernel
theorem dX7_told_64 : decode cX7_told 64 = .ok (.invokevirtual 100, 3) := by decide +kernel
theorem dX7_told_67 : decode cX7_told 67 = .ok (.ireturn, 1) := by decide +kernel
theorem dX7_told_68 : decode cX7_told 68 = .ok (.iload_n 1, 1) := by decide +kernel
theorem dX7_told_69 : decode cX7_told 69 = .ok (.ifCond .ne 15, 3) := by decide +kernel
theorem dX7_told_72 : decode cX7_told 72 = .ok (.aload_n 0, 1) := by decide +kernel
theorem dX7_told_73 : decode cX7_told 73 = .ok (.getfield 7, 3) := by decide +kernel
theorem dX7_told_76 : decode cX7_told 76 = .ok (.bipush 42, 2) := by decide +kernel
theorem dX7_told_78 : decode cX7_told 78 = .ok (.iload_n 2, 1) := by decide +kernel
theorem dX7_told_79 : decode cX7_told 79 = .ok (.iadd, 1) := by decide +kernel
theorem dX7_told_80 : decode cX7_told 80 = .ok (.iaload, 1) := by decide +kernel
theorem dX7_told_81 : decode cX7_told 81 = .ok (.goto 13, 3) := by decide +kernel
theorem dX7_told_84 : decode cX7_told 84 = .ok (.aload_n 0, 1) := by decide +kernel
theorem dX7_told_85 : decode cX7_told 85 = .ok (.getfield 7, 3) := by decide +kernel
theorem dX7_told_88 : decode cX7_told 88 = .ok (.iconst 3, 1) := by decide +kernel
theorem dX7_told_89 : decode cX7_told 89 = .ok (.iload_n 1, 1) := by decide +kernel
theorem dX7_told_90 : decode cX7_told 90 = .ok (.iadd, 1) := by decide +kernel
theorem dX7_told_91 : decode cX7_told 91 = .ok (.iconst 1, 1) := by decide +kernel
theorem dX7_told_92 : decode cX7_told 92 = .ok (.isub, 1) := by decide +kernel
theorem dX7_told_93 : decode cX7_told 93 = .ok (.iaload, 1) := by decide +kernel
theorem dX7_told_94 : decode cX7_told 94 = .ok (.ireturn, 1) := by decide +kernel
theorem dX7_lays_0 : decode cX7_lays 0 = .ok (.aload_n 0, 1) := by decide +kernel
theorem dX7_lays_1 : decode cX7_lays 1 = .ok (.iconst 1, 1) := by decide +kernel
theorem dX7_lays_2 : decode cX7_lays 2 = .ok (.iaload, 1) := by decide +kernel
theorem dX7_lays_3 : decode cX7_lays 3 = .ok (.istore 4, 2) := by decide +kernel
theorem dX7_lays_5 : decode cX7_lays 5 = .ok (.aload_n 0, 1) := by decide +kernel
theorem dX7_lays_6 : decode cX7_lays 6 = .ok (.bipush 6, 2) := by decide +kernel
theorem dX7_lays_8 : decode cX7_lays 8 = .ok (.iload 4, 2) := by decide +kernel
theorem dX7_lays_10 : decode cX7_lays 10 = .ok (.iadd, 1) := by decide +kernel
theorem dX7_lays_11 : decode cX7_lays 11 = .ok (.iload_n 1, 1) := by decide +kernel
theorem dX7_lays_12 : decode cX7_lays 12 = .ok (.iastore, 1) := by decide +kernel
theorem dX7_lays_13 : decode cX7_lays 13 = .ok (.aload_n 0, 1) := by decide +kernel
theorem dX7_lays_14 : decode cX7_lays 14 = .ok (.bipush 18, 2) := by decide +kernel
theorem dX7_lays_16 : decode cX7_lays 16 = .ok (.iload 4, 2) := by decide +kernel
theorem dX7_lays_18 : decode cX7_lays 18 = .ok (.iadd, 1) := by decide +kernel
theorem dX7_lays_19 : decode cX7_lays 19 = .ok (.iload_n 2, 1) := by decide +kernel
theorem dX7_lays_20 : decode cX7_lays 20 = .ok (.iastore, 1) := by decide +kernel
theorem dX7_lays_21 : decode cX7_lays 21 = .ok (.aload_n 0, 1) := by decide +kernel
theorem dX7_lays_22 : decode cX7_lays 22 = .ok (.bipush 30, 2) := by decide +kernel
theorem dX7_lays_24 : decode cX7_lays 24 = .ok (.iload 4, 2) := by decide +kernel
theorem dX7_lays_26 : decode cX7_lays 26 = .ok (.iadd, 1) := by decide +kernel
theorem dX7_lays_27 : decode cX7_lays 27 = .ok (.iload_n 1, 1) := by decide +kernel
theorem dX7_lays_28 : decode cX7_lays 28 = .ok (.ifCond .ne 7, 3) := by decide +kernel
theorem dX7_lays_31 : decode cX7_lays 31 = .ok (.iconst (-1), 1) := by decide +kernel
theorem dX7_lays_32 : decode cX7_lays 32 = .ok (.goto 4, 3) := by decide +kernel
theorem dX7_lays_35 : decode cX7_lays 35 = .ok (.iload_n 3, 1) := by decide +kernel
theorem dX7_lays_36 : decode cX7_lays 36 = .ok (.iastore, 1) := by decide +kernel
theorem dX7_lays_37 : decode cX7_lays 37 = .ok (.aload_n 0, 1) := by decide +kernel
theorem dX7_lays_38 : decode cX7_lays 38 = .ok (.iconst 1, 1) := by decide +kernel
theorem dX7_lays_39 : decode cX7_lays 39 = .ok (.dup2, 1) := by decide +kernel
theorem dX7_lays_40 : decode cX7_lays 40 = .ok (.iaload, 1) := by decide +kernel
theorem dX7_lays_41 : decode cX7_lays 41 = .ok (.iconst 1, 1) := by decide +kernel
theorem dX7_lays_42 : decode cX7_lays 42 = .ok (.iadd, 1) := by decide +kernel
theorem dX7_lays_43 : decode cX7_lays 43 = .ok (.iastore, 1) := by decide +kernel
theorem dX7_lays_44 : decode cX7_lays 44 = .ok (.aload_n 0, 1) := by decide +kernel
theorem dX7_lays_45 : decode cX7_lays 45 = .ok (.iconst 0, 1) := by decide +kernel
theorem dX7_lays_46 : decode cX7_lays 46 = .ok (.iaload, 1) := by decide +kernel
theorem dX7_lays_47 : decode cX7_lays 47 = .ok (.iload 4, 2) := by decide +kernel
theorem dX7_lays_49 : decode cX7_lays 49 = .ok (.iadd, 1) := by decide +kernel
theorem dX7_lays_50 : decode cX7_lays 50 = .ok (.ireturn, 1) := by decide +kernel
theorem dX7_outs_0 : decode cX7_outs 0 = .ok (.aload_n 0, 1) := by decide +kernel
theorem dX7_outs_1 : decode cX7_outs 1 = .ok (.getfield 7, 3) := by decide +kernel
theorem dX7_outs_4 : decode cX7_outs 4 = .ok (.bipush 42, 2) := by decide +kernel
theorem dX7_outs_6 : decode cX7_outs 6 = .ok (.aload_n 0, 1) := by decide +kernel
theorem dX7_outs_7 : decode cX7_outs 7 = .ok (.getfield 7, 3) := by decide +kernel
theorem dX7_outs_10 : decode cX7_outs 10 = .ok (.iconst 2, 1) := by decide +kernel
theorem dX7_outs_11 : decode cX7_outs 11 = .ok (.iaload, 1) := by decide +kernel
theorem dX7_outs_12 : decode cX7_outs 12 = .ok (.iadd, 1) := by decide +kernel
theorem dX7_outs_13 : decode cX7_outs 13 = .ok (.iload_n 1, 1) := by decide +kernel
theorem dX7_outs_14 : decode cX7_outs 14 = .ok (.iastore, 1) := by decide +kernel
theorem dX7_outs_15 : decode cX7_outs 15 = .ok (.aload_n 0, 1) := by decide +kernel
theorem dX7_outs_16 : decode cX7_outs 16 = .ok (.getfield 7, 3) := by decide +kernel
theorem dX7_outs_19 : decode cX7_outs 19 = .ok (.iconst 2, 1) := by decide +kernel
theorem dX7_outs_20 : decode cX7_outs 20 = .ok (.dup2, 1) := by decide +kernel
theorem dX7_outs_21 : decode cX7_outs 21 = .ok (.iaload, 1) := by decide +kernel
theorem dX7_outs_22 : decode cX7_outs 22 = .ok (.iconst 1, 1) := by decide +kernel
theorem dX7_outs_23 : decode cX7_outs 23 = .ok (.iadd, 1) := by decide +kernel
theorem dX7_outs_24 : decode cX7_outs 24 = .ok (.iastore, 1) := by decide +kernel
theorem dX7_outs_25 : decode cX7_outs 25 = .ok (.return_, 1) := by decide +kernel
theorem dX7_begins_0 : decode cX7_begins 0 = .ok (.iconst 0, 1) := by decide +kernel
theorem dX7_begins_1 : decode cX7_begins 1 = .ok (.istore 5, 2) := by decide +kernel
theorem dX7_begins_3 : decode cX7_begins 3 = .ok (.iload 5, 2) := by decide +kernel
theorem dX7_begins_5 : decode cX7_begins 5 = .ok (.bipush 49, 2) := by decide +kernel
theorem dX7_begins_7 : decode cX7_begins 7 = .ok (.if_icmp .ge 17, 3) := by decide +kernel
theorem dX7_begins_10 : decode cX7_begins 10 = .ok (.aload_n 0, 1) := by decide +kernel
theorem dX7_begins_11 : decode cX7_begins 11 = .ok (.getfield 7, 3) := by decide +kernel
theorem dX7_begins_14 : decode cX7_begins 14 = .ok (.iload 5, 2) := by decide +kernel
theorem dX7_begins_16 : decode cX7_begins 16 = .ok (.iconst 0, 1) := by decide +kernel
theorem dX7_begins_17 : decode cX7_begins 17 = .ok (.iastore, 1) := by decide +kernel
theorem dX7_begins_18 : decode cX7_begins 18 = .ok (.iinc 5 1, 3) := by decide +kernel
theorem dX7_begins_21 : decode cX7_begins 21 = .ok (.goto (-18), 3) := by decide +kernel
theorem dX7_begins_24 : decode cX7_begins 24 = .ok (.aload_n 0, 1) := by decide +kernel
theorem dX7_begins_25 : decode cX7_begins 25 = .ok (.getfield 7, 3) := by decide +kernel
theorem dX7_begins_28 : decode cX7_begins 28 = .ok (.iconst 0, 1) := by decide +kernel
theorem dX7_begins_29 : decode cX7_begins 29 = .ok (.iload_n 1, 1) := by decide +kernel
theorem dX7_begins_30 : decode cX7_begins 30 = .ok (.iastore, 1) := by decide +kernel
theorem dX7_begins_31 : decode cX7_begins 31 = .ok (.aload_n 0, 1) := by decide +kernel
theorem dX7_begins_32 : decode cX7_begins 32 = .ok (.getfield 7, 3) := by decide +kernel
theorem dX7_begins_35 : decode cX7_begins 35 = .ok (.iconst 3, 1) := by decide +kernel
theorem dX7_begins_36 : decode cX7_begins 36 = .ok (.iload_n 2, 1) := by decide +kernel
theorem dX7_begins_37 : decode cX7_begins 37 = .ok (.iastore, 1) := by decide +kernel
theorem dX7_begins_38 : decode cX7_begins 38 = .ok (.aload_n 0, 1) := by decide +kernel
theorem dX7_begins_39 : decode cX7_begins 39 = .ok (.getfield 7, 3) := by decide +kernel
theorem dX7_begins_42 : decode cX7_begins 42 = .ok (.iconst 4, 1) := by decide +kernel
theorem dX7_begins_43 : decode cX7_begins 43 = .ok (.iload_n 3, 1) := by decide +kernel
theorem dX7_begins_44 : decode cX7_begins 44 = .ok (.iastore, 1) := by decide +kernel
theorem dX7_begins_45 : decode cX7_begins 45 = .ok (.aload_n 0, 1) := by decide +kernel
theorem dX7_begins_46 : decode cX7_begins 46 = .ok (.getfield 7, 3) := by decide +kernel
theorem dX7_begins_49 : decode cX7_begins 49 = .ok (.iconst 5, 1) := by decide +kernel
theorem dX7_begins_50 : decode cX7_begins 50 = .ok (.iload 4, 2) := by decide +kernel
theorem dX7_begins_52 : decode cX7_begins 52 = .ok (.iastore, 1) := by decide +kernel
theorem dX7_begins_53 : decode cX7_begins 53 = .ok (.return_, 1) := by decide +kernel
theorem dX7_adder_0 : decode cX7_adder 0 = .ok (.iload_n 1, 1) := by decide +kernel
theorem dX7_adder_1 : decode cX7_adder 1 = .ok (.iconst 1, 1) := by decide +kernel
theorem dX7_adder_2 : decode cX7_adder 2 = .ok (.iconst 3, 1) := by decide +kernel
theorem dX7_adder_3 : decode cX7_adder 3 = .ok (.invokestatic 39, 3) := by decide +kernel
theorem dX7_adder_6 : decode cX7_adder 6 = .ok (.ifCond .ne 10, 3) := by decide +kernel
theorem dX7_adder_9 : decode cX7_adder 9 = .ok (.aload_n 0, 1) := by decide +kernel
theorem dX7_adder_10 : decode cX7_adder 10 = .ok (.bipush (-2), 2) := by decide +kernel
theorem dX7_adder_12 : decode cX7_adder 12 = .ok (.invokevirtual 43, 3) := by decide +kernel
theorem dX7_adder_15 : decode cX7_adder 15 = .ok (.ireturn, 1) := by decide +kernel
theorem dX7_adder_16 : decode cX7_adder 16 = .ok (.aload_n 0, 1) := by decide +kernel
theorem dX7_adder_17 : decode cX7_adder 17 = .ok (.iconst 2, 1) := by decide +kernel
theorem dX7_adder_18 : decode cX7_adder 18 = .ok (.iload_n 1, 1) := by decide +kernel
theorem dX7_adder_19 : decode cX7_adder 19 = .ok (.imul, 1) := by decide +kernel
theorem dX7_adder_20 : decode cX7_adder 20 = .ok (.iconst 0, 1) := by decide +kernel
theorem dX7_adder_21 : decode cX7_adder 21 = .ok (.iload_n 1, 1) := by decide +kernel
theorem dX7_adder_22 : decode cX7_adder 22 = .ok (.iload_n 1, 1) := by decide +kernel
theorem dX7_adder_23 : decode cX7_adder 23 = .ok (.invokevirtual 104, 3) := by decide +kernel
theorem dX7_adder_26 : decode cX7_adder 26 = .ok (.aload_n 0, 1) := by decide +kernel
theorem dX7_adder_27 : decode cX7_adder 27 = .ok (.aload_n 0, 1) := by decide +kernel
theorem dX7_adder_28 : decode cX7_adder 28 = .ok (.getfield 7, 3) := by decide +kernel
theorem dX7_adder_31 : decode cX7_adder 31 = .ok (.iconst 3, 1) := by decide +kernel
theorem dX7_adder_32 : decode cX7_adder 32 = .ok (.iconst 0, 1) := by decide +kernel
theorem dX7_adder_33 : decode cX7_adder 33 = .ok (.iload_n 1, 1) := by decide +kernel
theorem dX7_adder_34 : decode cX7_adder 34 = .ok (.invokestatic 108, 3) := by decide +kernel
theorem dX7_adder_37 : decode cX7_adder 37 = .ok (.invokevirtual 112, 3) := by decide +kernel
theorem dX7_adder_40 : decode cX7_adder 40 = .ok (.aload_n 0, 1) := by decide +kernel
theorem dX7_adder_41 : decode cX7_adder 41 = .ok (.getfield 7, 3) := by decide +kernel
theorem dX7_adder_44 : decode cX7_adder 44 = .ok (.iconst 1, 1) := by decide +kernel
theorem dX7_adder_45 : decode cX7_adder 45 = .ok (.iconst 0, 1) := by decide +kernel
theorem dX7_adder_46 : decode cX7_adder 46 = .ok (.iload_n 1, 1) := by decide +kernel
theorem dX7_adder_47 : decode cX7_adder 47 = .ok (.invokestatic 108, 3) := by decide +kernel
theorem dX7_adder_50 : decode cX7_adder 50 = .ok (.istore_n 2, 1) := by decide +kernel
theorem dX7_adder_51 : decode cX7_adder 51 = .ok (.iconst 1, 1) := by decide +kernel
theorem dX7_adder_52 : decode cX7_adder 52 = .ok (.istore_n 3, 1) := by decide +kernel
theorem dX7_adder_53 : decode cX7_adder 53 = .ok (.iload_n 3, 1) := by decide +kernel
theorem dX7_adder_54 : decode cX7_adder 54 = .ok (.iload_n 1, 1) := by decide +kernel
theorem dX7_adder_55 : decode cX7_adder 55 = .ok (.if_icmp .ge 78, 3) := by decide +kernel
theorem dX7_adder_58 : decode cX7_adder 58 = .ok (.aload_n 0, 1) := by decide +kernel
theorem dX7_adder_59 : decode cX7_adder 59 = .ok (.getfield 7, 3) := by decide +kernel
theorem dX7_adder_62 : decode cX7_adder 62 = .ok (.iconst 3, 1) := by decide +kernel
theorem dX7_adder_63 : decode cX7_adder 63 = .ok (.iload_n 3, 1) := by decide +kernel
theorem dX7_adder_64 : decode cX7_adder 64 = .ok (.iload_n 1, 1) := by decide +kernel
theorem dX7_adder_65 : decode cX7_adder 65 = .ok (.iload_n 3, 1) := by decide +kernel
theorem dX7_adder_66 : decode cX7_adder 66 = .ok (.iadd, 1) := by decide +kernel
theorem dX7_adder_67 : decode cX7_adder 67 = .ok (.invokestatic 108, 3) := by decide +kernel
theorem dX7_adder_70 : decode cX7_adder 70 = .ok (.istore 4, 2) := by decide +kernel
theorem dX7_adder_72 : decode cX7_adder 72 = .ok (.aload_n 0, 1) := by decide +kernel
theorem dX7_adder_73 : decode cX7_adder 73 = .ok (.aload_n 0, 1) := by decide +kernel
theorem dX7_adder_74 : decode cX7_adder 74 = .ok (.getfield 7, 3) := by decide +kernel
theorem dX7_adder_77 : decode cX7_adder 77 = .ok (.iconst 3, 1) := by decide +kernel
theorem dX7_adder_78 : decode cX7_adder 78 = .ok (.iload 4, 2) := by decide +kernel
theorem dX7_adder_80 : decode cX7_adder 80 = .ok (.iload_n 2, 1) := by decide +kernel
theorem dX7_adder_81 : decode cX7_adder 81 = .ok (.invokestatic 108, 3) := by decide +kernel
theorem dX7_adder_84 : decode cX7_adder 84 = .ok (.invokevirtual 112, 3) := by decide +kernel
theorem dX7_adder_87 : decode cX7_adder 87 = .ok (.aload_n 0, 1) := by decide +kernel
theorem dX7_adder_88 : decode cX7_adder 88 = .ok (.getfield 7, 3) := by decide +kernel
theorem dX7_adder_91 : decode cX7_adder 91 = .ok (.iconst 1, 1) := by decide +kernel
theorem dX7_adder_92 : decode cX7_adder 92 = .ok (.iload_n 3, 1) := by decide +kernel
theorem dX7_adder_93 : decode cX7_adder 93 = .ok (.iload_n 1, 1) := by decide +kernel
theorem dX7_adder_94 : decode cX7_adder 94 = .ok (.iload_n 3, 1) := by decide +kernel
theorem dX7_adder_95 : decode cX7_adder 95 = .ok (.iadd, 1) := by decide +kernel
theorem dX7_adder_96 : decode cX7_adder 96 = .ok (.invokestatic 108, 3) := by decide +kernel
theorem dX7_adder_99 : decode cX7_adder 99 = .ok (.istore 5, 2) := by decide +kernel
theorem dX7_adder_101 : decode cX7_adder 101 = .ok (.aload_n 0, 1) := by decide +kernel
theorem dX7_adder_102 : decode cX7_adder 102 = .ok (.getfield 7, 3) := by decide +kernel
theorem dX7_adder_105 : decode cX7_adder 105 = .ok (.iconst 1, 1) := by decide +kernel
theorem dX7_adder_106 : decode cX7_adder 106 = .ok (.iload 4, 2) := by decide +kernel
theorem dX7_adder_108 : decode cX7_adder 108 = .ok (.iload_n 2, 1) := by decide +kernel
theorem dX7_adder_109 : decode cX7_adder 109 = .ok (.invokestatic 108, 3) := by decide +kernel
theorem dX7_adder_112 : decode cX7_adder 112 = .ok (.istore 6, 2) := by decide +kernel
theorem dX7_adder_114 : decode cX7_adder 114 = .ok (.aload_n 0, 1) := by decide +kernel
theorem dX7_adder_115 : decode cX7_adder 115 = .ok (.getfield 7, 3) := by decide +kernel
theorem dX7_adder_118 : decode cX7_adder 118 = .ok (.iconst 2, 1) := by decide +kernel
theorem dX7_adder_119 : decode cX7_adder 119 = .ok (.iload 5, 2) := by decide +kernel
theorem dX7_adder_121 : decode cX7_adder 121 = .ok (.iload 6, 2) := by decide +kernel
theorem dX7_adder_123 : decode cX7_adder 123 = .ok (.invokestatic 108, 3) := by decide +kernel
theorem dX7_adder_126 : decode cX7_adder 126 = .ok (.istore_n 2, 1) := by decide +kernel
theorem dX7_adder_127 : decode cX7_adder 127 = .ok (.iinc 3 1, 3) := by decide +kernel
theorem dX7_adder_130 : decode cX7_adder 130 = .ok (.goto (-77), 3) := by decide +kernel
theorem dX7_adder_133 : decode cX7_adder 133 = .ok (.aload_n 0, 1) := by decide +kernel
theorem dX7_adder_134 : decode cX7_adder 134 = .ok (.iload_n 2, 1) := by decide +kernel
theorem dX7_adder_135 : decode cX7_adder 135 = .ok (.invokevirtual 112, 3) := by decide +kernel
theorem dX7_adder_138 : decode cX7_adder 138 = .ok (.aload_n 0, 1) := by decide +kernel
theorem dX7_adder_139 : decode cX7_adder 139 = .ok (.getfield 7, 3) := by decide +kernel
theorem dX7_adder_142 : decode cX7_adder 142 = .ok (.iconst 1, 1) := by decide +kernel
theorem dX7_adder_143 : decode cX7_adder 143 = .ok (.iaload, 1) := by decide +kernel
theorem dX7_adder_144 : decode cX7_adder 144 = .ok (.ireturn, 1) := by decide +kernel
theorem dX7_draw_0 : decode cX7_draw 0 = .ok (.iload_n 1, 1) := by decide +kernel
theorem dX7_draw_1 : decode cX7_draw 1 = .ok (.iconst 0, 1) := by decide +kernel
theorem dX7_draw_2 : decode cX7_draw 2 = .ok (.ldc 116, 2) := by decide +kernel
theorem dX7_draw_4 : decode cX7_draw 4 = .ok (.invokestatic 39, 3) := by decide +kernel
theorem dX7_draw_7 : decode cX7_draw 7 = .ok (.ifCond .eq 23, 3) := by decide +kernel
theorem dX7_draw_10 : decode cX7_draw 10 = .ok (.iload_n 2, 1) := by decide +kernel
theorem dX7_draw_11 : decode cX7_draw 11 = .ok (.iconst 1, 1) := by decide +kernel
theorem dX7_draw_12 : decode cX7_draw 12 = .ok (.bipush 6, 2) := by decide +kernel
theorem dX7_draw_14 : decode cX7_draw 14 = .ok (.invokestatic 39, 3) := by decide +kernel
theorem dX7_draw_17 : decode cX7_draw 17 = .ok (.ifCond .eq 13, 3) := by decide +kernel
theorem dX7_draw_20 : decode cX7_draw 20 = .ok (.iload_n 3, 1) := by decide +kernel
theorem dX7_draw_21 : decode cX7_draw 21 = .ok (.iconst 1, 1) := by decide +kernel
theorem dX7_draw_22 : decode cX7_draw 22 = .ok (.bipush 12, 2) := by decide +kernel
theorem dX7_draw_24 : decode cX7_draw 24 = .ok (.invokestatic 39, 3) := by decide +kernel
theorem dX7_draw_27 : decode cX7_draw 27 = .ok (.ifCond .ne 10, 3) := by decide +kernel
theorem dX7_draw_30 : decode cX7_draw 30 = .ok (.aload_n 0, 1) := by decide +kernel
theorem dX7_draw_31 : decode cX7_draw 31 = .ok (.bipush (-2), 2) := by decide +kernel
theorem dX7_draw_33 : decode cX7_draw 33 = .ok (.invokevirtual 43, 3) := by decide +kernel
theorem dX7_draw_36 : decode cX7_draw 36 = .ok (.ireturn, 1) := by decide +kernel
theorem dX7_draw_37 : decode cX7_draw 37 = .ok (.aload_n 0, 1) := by decide +kernel
theorem dX7_draw_38 : decode cX7_draw 38 = .ok (.iload_n 2, 1) := by decide +kernel
theorem dX7_draw_39 : decode cX7_draw 39 = .ok (.iconst 0, 1) := by decide +kernel
theorem dX7_draw_40 : decode cX7_draw 40 = .ok (.iconst 1, 1) := by decide +kernel
theorem dX7_draw_41 : decode cX7_draw 41 = .ok (.iconst 0, 1) := by decide +kernel
theorem dX7_draw_42 : decode cX7_draw 42 = .ok (.invokevirtual 104, 3) := by decide +kernel
theorem dX7_draw_45 : decode cX7_draw 45 = .ok (.iload_n 1, 1) := by decide +kernel
theorem dX7_draw_46 : decode cX7_draw 46 = .ok (.i2l, 1) := by decide +kernel
theorem dX7_draw_47 : decode cX7_draw 47 = .ok (.lstore 4, 2) := by decide +kernel
theorem dX7_draw_49 : decode cX7_draw 49 = .ok (.iconst 0, 1) := by decide +kernel
theorem dX7_draw_50 : decode cX7_draw 50 = .ok (.istore 6, 2) := by decide +kernel
theorem dX7_draw_52 : decode cX7_draw 52 = .ok (.iload 6, 2) := by decide +kernel
theorem dX7_draw_54 : decode cX7_draw 54 = .ok (.iload_n 3, 1) := by decide +kernel
theorem dX7_draw_55 : decode cX7_draw 55 = .ok (.if_icmp .ge 72, 3) := by decide +kernel
theorem dX7_draw_58 : decode cX7_draw 58 = .ok (.lload 4, 2) := by decide +kernel
theorem dX7_draw_60 : decode cX7_draw 60 = .ok (.ldc2_w 117, 3) := by decide +kernel
theorem dX7_draw_63 : decode cX7_draw 63 = .ok (.lmul, 1) := by decide +kernel
theorem dX7_draw_64 : decode cX7_draw 64 = .ok (.ldc2_w 119, 3) := by decide +kernel
theorem dX7_draw_67 : decode cX7_draw 67 = .ok (.ladd, 1) := by decide +kernel
theorem dX7_draw_68 : decode cX7_draw 68 = .ok (.ldc2_w 121, 3) := by decide +kernel
theorem dX7_draw_71 : decode cX7_draw 71 = .ok (.lrem, 1) := by decide +kernel
theorem dX7_draw_72 : decode cX7_draw 72 = .ok (.lstore 4, 2) := by decide +kernel
theorem dX7_draw_74 : decode cX7_draw 74 = .ok (.iload_n 2, 1) := by decide +kernel
theorem dX7_draw_75 : decode cX7_draw 75 = .ok (.iload 6, 2) := by decide +kernel
theorem dX7_draw_77 : decode cX7_draw 77 = .ok (.iadd, 1) := by decide +kernel
theorem dX7_draw_78 : decode cX7_draw 78 = .ok (.istore 7, 2) := by decide +kernel
theorem dX7_draw_80 : decode cX7_draw 80 = .ok (.aload_n 0, 1) := by decide +kernel
theorem dX7_draw_81 : decode cX7_draw 81 = .ok (.getfield 7, 3) := by decide +kernel
theorem dX7_draw_84 : decode cX7_draw 84 = .ok (.lload 4, 2) := by decide +kernel
theorem dX7_draw_86 : decode cX7_draw 86 = .ok (.ldc2_w 123, 3) := by decide +kernel
theorem dX7_draw_89 : decode cX7_draw 89 = .ok (.ldiv, 1) := by decide +kernel
theorem dX7_draw_90 : decode cX7_draw 90 = .ok (.ldc2_w 125, 3) := by decide +kernel
theorem dX7_draw_93 : decode cX7_draw 93 = .ok (.lrem, 1) := by decide +kernel
theorem dX7_draw_94 : decode cX7_draw 94 = .ok (.l2i, 1) := by decide +kernel
theorem dX7_draw_95 : decode cX7_draw 95 = .ok (.lload 4, 2) := by decide +kernel
theorem dX7_draw_97 : decode cX7_draw 97 = .ok (.ldc2_w 127, 3) := by decide +kernel
theorem dX7_draw_100 : decode cX7_draw 100 = .ok (.ldiv, 1) := by decide +kernel
theorem dX7_draw_101 : decode cX7_draw 101 = .ok (.iload 7, 2) := by decide +kernel
theorem dX7_draw_103 : decode cX7_draw 103 = .ok (.i2l, 1) := by decide +kernel
theorem dX7_draw_104 : decode cX7_draw 104 = .ok (.lrem, 1) := by decide +kernel
theorem dX7_draw_105 : decode cX7_draw 105 = .ok (.l2i, 1) := by decide +kernel
theorem dX7_draw_106 : decode cX7_draw 106 = .ok (.lload 4, 2) := by decide +kernel
theorem dX7_draw_108 : decode cX7_draw 108 = .ok (.ldc2_w 129, 3) := by decide +kernel
theorem dX7_draw_111 : decode cX7_draw 111 = .ok (.ldiv, 1) := by decide +kernel
theorem dX7_draw_112 : decode cX7_draw 112 = .ok (.iload 7, 2) := by decide +kernel
theorem dX7_draw_114 : decode cX7_draw 114 = .ok (.i2l, 1) := by decide +kernel
theorem dX7_draw_115 : decode cX7_draw 115 = .ok (.lrem, 1) := by decide +kernel
theorem dX7_draw_116 : decode cX7_draw 116 = .ok (.l2i, 1) := by decide +kernel
theorem dX7_draw_117 : decode cX7_draw 117 = .ok (.invokestatic 108, 3) := by decide +kernel
theorem dX7_draw_120 : decode cX7_draw 120 = .ok (.pop, 1) := by decide +kernel
theorem dX7_draw_121 : decode cX7_draw 121 = .ok (.iinc 6 1, 3) := by decide +kernel
theorem dX7_draw_124 : decode cX7_draw 124 = .ok (.goto (-72), 3) := by decide +kernel
theorem dX7_draw_127 : decode cX7_draw 127 = .ok (.aload_n 0, 1) := by decide +kernel
theorem dX7_draw_128 : decode cX7_draw 128 = .ok (.iload_n 2, 1) := by decide +kernel
theorem dX7_draw_129 : decode cX7_draw 129 = .ok (.iload_n 3, 1) := by decide +kernel
theorem dX7_draw_130 : decode cX7_draw 130 = .ok (.iadd, 1) := by decide +kernel
theorem dX7_draw_131 : decode cX7_draw 131 = .ok (.iconst 1, 1) := by decide +kernel
theorem dX7_draw_132 : decode cX7_draw 132 = .ok (.isub, 1) := by decide +kernel
theorem dX7_draw_133 : decode cX7_draw 133 = .ok (.invokevirtual 112, 3) := by decide +kernel
theorem dX7_draw_136 : decode cX7_draw 136 = .ok (.iload_n 3, 1) := by decide +kernel
theorem dX7_draw_137 : decode cX7_draw 137 = .ok (.iconst 1, 1) := by decide +kernel
theorem dX7_draw_138 : decode cX7_draw 138 = .ok (.if_icmp .le 12, 3) := by decide +kernel
theorem dX7_draw_141 : decode cX7_draw 141 = .ok (.aload_n 0, 1) := by decide +kernel
theorem dX7_draw_142 : decode cX7_draw 142 = .ok (.iload_n 2, 1) := by decide +kernel
theorem dX7_draw_143 : decode cX7_draw 143 = .ok (.iload_n 3, 1) := by decide +kernel
theorem dX7_draw_144 : decode cX7_draw 144 = .ok (.iadd, 1) := by decide +kernel
theorem dX7_draw_145 : decode cX7_draw 145 = .ok (.iconst 2, 1) := by decide +kernel
theorem dX7_draw_146 : decode cX7_draw 146 = .ok (.isub, 1) := by decide +kernel
theorem dX7_draw_147 : decode cX7_draw 147 = .ok (.invokevirtual 112, 3) := by decide +kernel
theorem dX7_draw_150 : decode cX7_draw 150 = .ok (.iload_n 3, 1) := by decide +kernel
theorem dX7_draw_151 : decode cX7_draw 151 = .ok (.ireturn, 1) := by decide +kernel
theorem dX7_goes_0 : decode cX7_goes 0 = .ok (.iload_n 1, 1) := by decide +kernel
theorem dX7_goes_1 : decode cX7_goes 1 = .ok (.iload_n 2, 1) := by decide +kernel
theorem dX7_goes_2 : decode cX7_goes 2 = .ok (.iand, 1) := by decide +kernel
theorem dX7_goes_3 : decode cX7_goes 3 = .ok (.istore_n 3, 1) := by decide +kernel
theorem dX7_goes_4 : decode cX7_goes 4 = .ok (.iload_n 1, 1) := by decide +kernel
theorem dX7_goes_5 : decode cX7_goes 5 = .ok (.iload_n 2, 1) := by decide +kernel
theorem dX7_goes_6 : decode cX7_goes 6 = .ok (.ior, 1) := by decide +kernel
theorem dX7_goes_7 : decode cX7_goes 7 = .ok (.istore 4, 2) := by decide +kernel
theorem dX7_goes_9 : decode cX7_goes 9 = .ok (.iload_n 0, 1) := by decide +kernel
theorem dX7_goes_10 : decode cX7_goes 10 = .ok (.tableswitch 70 0 6 #[42, 46, 48, 51, 55, 59, 64], 42) := by decide +kernel
theorem dX7_goes_52 : decode cX7_goes 52 = .ok (.iconst 1, 1) := by decide +kernel
theorem dX7_goes_53 : decode cX7_goes 53 = .ok (.iload_n 1, 1) := by decide +kernel
theorem dX7_goes_54 : decode cX7_goes 54 = .ok (.isub, 1) := by decide +kernel
theorem dX7_goes_55 : decode cX7_goes 55 = .ok (.ireturn, 1) := by decide +kernel
theorem dX7_goes_56 : decode cX7_goes 56 = .ok (.iload_n 3, 1) := by decide +kernel
theorem dX7_goes_57 : decode cX7_goes 57 = .ok (.ireturn, 1) := by decide +kernel
theorem dX7_goes_58 : decode cX7_goes 58 = .ok (.iload 4, 2) := by decide +kernel
theorem dX7_goes_60 : decode cX7_goes 60 = .ok (.ireturn, 1) := by decide +kernel
theorem dX7_goes_61 : decode cX7_goes 61 = .ok (.iload_n 1, 1) := by decide +kernel
theorem dX7_goes_62 : decode cX7_goes 62 = .ok (.iload_n 2, 1) := by decide +kernel
theorem dX7_goes_63 : decode cX7_goes 63 = .ok (.ixor, 1) := by decide +kernel
theorem dX7_goes_64 : decode cX7_goes 64 = .ok (.ireturn, 1) := by decide +kernel
theorem dX7_goes_65 : decode cX7_goes 65 = .ok (.iconst 1, 1) := by decide +kernel
theorem dX7_goes_66 : decode cX7_goes 66 = .ok (.iload_n 3, 1) := by decide +kernel
theorem dX7_goes_67 : decode cX7_goes 67 = .ok (.isub, 1) := by decide +kernel
theorem dX7_goes_68 : decode cX7_goes 68 = .ok (.ireturn, 1) := by decide +kernel
theorem dX7_goes_69 : decode cX7_goes 69 = .ok (.iconst 1, 1) := by decide +kernel
theorem dX7_goes_70 : decode cX7_goes 70 = .ok (.iload 4, 2) := by decide +kernel
theorem dX7_goes_72 : decode cX7_goes 72 = .ok (.isub, 1) := by decide +kernel
theorem dX7_goes_73 : decode cX7_goes 73 = .ok (.ireturn, 1) := by decide +kernel
theorem dX7_goes_74 : decode cX7_goes 74 = .ok (.iconst 1, 1) := by decide +kernel
theorem dX7_goes_75 : decode cX7_goes 75 = .ok (.iload_n 1, 1) := by decide +kernel
theorem dX7_goes_76 : decode cX7_goes 76 = .ok (.iload_n 2, 1) := by decide +kernel
theorem dX7_goes_77 : decode cX7_goes 77 = .ok (.ixor, 1) := by decide +kernel
theorem dX7_goes_78 : decode cX7_goes 78 = .ok (.isub, 1) := by decide +kernel
theorem dX7_goes_79 : decode cX7_goes 79 = .ok (.ireturn, 1) := by decide +kernel
theorem dX7_goes_80 : decode cX7_goes 80 = .ok (.iload_n 1, 1) := by decide +kernel
theorem dX7_goes_81 : decode cX7_goes 81 = .ok (.iconst 1, 1) := by decide +kernel
theorem dX7_goes_82 : decode cX7_goes 82 = .ok (.iload_n 2, 1) := by decide +kernel
theorem dX7_goes_83 : decode cX7_goes 83 = .ok (.isub, 1) := by decide +kernel
theorem dX7_goes_84 : decode cX7_goes 84 = .ok (.iand, 1) := by decide +kernel
theorem dX7_goes_85 : decode cX7_goes 85 = .ok (.ireturn, 1) := by decide +kernel
theorem dX7_signals_0 : decode cX7_signals 0 = .ok (.iload_n 1, 1) := by decide +kernel
theorem dX7_signals_1 : decode cX7_signals 1 = .ok (.istore_n 2, 1) := by decide +kernel
theorem dX7_signals_2 : decode cX7_signals 2 = .ok (.iconst 0, 1) := by decide +kernel
theorem dX7_signals_3 : decode cX7_signals 3 = .ok (.istore_n 3, 1) := by decide +kernel
theorem dX7_signals_4 : decode cX7_signals 4 = .ok (.iload_n 3, 1) := by decide +kernel
theorem dX7_signals_5 : decode cX7_signals 5 = .ok (.aload_n 0, 1) := by decide +kernel
theorem dX7_signals_6 : decode cX7_signals 6 = .ok (.getfield 7, 3) := by decide +kernel
theorem dX7_signals_9 : decode cX7_signals 9 = .ok (.iconst 1, 1) := by decide +kernel
theorem dX7_signals_10 : decode cX7_signals 10 = .ok (.iaload, 1) := by decide +kernel
theorem dX7_signals_11 : decode cX7_signals 11 = .ok (.if_icmp .ge 83, 3) := by decide +kernel
theorem dX7_signals_14 : decode cX7_signals 14 = .ok (.iload_n 2, 1) := by decide +kernel
theorem dX7_signals_15 : decode cX7_signals 15 = .ok (.aload_n 0, 1) := by decide +kernel
theorem dX7_signals_16 : decode cX7_signals 16 = .ok (.getfield 7, 3) := by decide +kernel
theorem dX7_signals_19 : decode cX7_signals 19 = .ok (.bipush 18, 2) := by decide +kernel
theorem dX7_signals_21 : decode cX7_signals 21 = .ok (.iload_n 3, 1) := by decide +kernel
theorem dX7_signals_22 : decode cX7_signals 22 = .ok (.iadd, 1) := by decide +kernel
theorem dX7_signals_23 : decode cX7_signals 23 = .ok (.iaload, 1) := by decide +kernel
theorem dX7_signals_24 : decode cX7_signals 24 = .ok (.ishr, 1) := by decide +kernel
theorem dX7_signals_25 : decode cX7_signals 25 = .ok (.iconst 1, 1) := by decide +kernel
theorem dX7_signals_26 : decode cX7_signals 26 = .ok (.iand, 1) := by decide +kernel
theorem dX7_signals_27 : decode cX7_signals 27 = .ok (.istore 4, 2) := by decide +kernel
theorem dX7_signals_29 : decode cX7_signals 29 = .ok (.aload_n 0, 1) := by decide +kernel
theorem dX7_signals_30 : decode cX7_signals 30 = .ok (.getfield 7, 3) := by decide +kernel
theorem dX7_signals_33 : decode cX7_signals 33 = .ok (.bipush 6, 2) := by decide +kernel
theorem dX7_signals_35 : decode cX7_signals 35 = .ok (.iload_n 3, 1) := by decide +kernel
theorem dX7_signals_36 : decode cX7_signals 36 = .ok (.iadd, 1) := by decide +kernel
theorem dX7_signals_37 : decode cX7_signals 37 = .ok (.iaload, 1) := by decide +kernel
theorem dX7_signals_38 : decode cX7_signals 38 = .ok (.ifCond .ne 7, 3) := by decide +kernel
theorem dX7_signals_41 : decode cX7_signals 41 = .ok (.iconst 0, 1) := by decide +kernel
theorem dX7_signals_42 : decode cX7_signals 42 = .ok (.goto 16, 3) := by decide +kernel
theorem dX7_signals_45 : decode cX7_signals 45 = .ok (.iload_n 2, 1) := by decide +kernel
theorem dX7_signals_46 : decode cX7_signals 46 = .ok (.aload_n 0, 1) := by decide +kernel
theorem dX7_signals_47 : decode cX7_signals 47 = .ok (.getfield 7, 3) := by decide +kernel
theorem dX7_signals_50 : decode cX7_signals 50 = .ok (.bipush 30, 2) := by decide +kernel
theorem dX7_signals_52 : decode cX7_signals 52 = .ok (.iload_n 3, 1) := by decide +kernel
theorem dX7_signals_53 : decode cX7_signals 53 = .ok (.iadd, 1) := by decide +kernel
theorem dX7_signals_54 : decode cX7_signals 54 = .ok (.iaload, 1) := by decide +kernel
theorem dX7_signals_55 : decode cX7_signals 55 = .ok (.ishr, 1) := by decide +kernel
theorem dX7_signals_56 : decode cX7_signals 56 = .ok (.iconst 1, 1) := by decide +kernel
theorem dX7_signals_57 : decode cX7_signals 57 = .ok (.iand, 1) := by decide +kernel
theorem dX7_signals_58 : decode cX7_signals 58 = .ok (.istore 5, 2) := by decide +kernel
theorem dX7_signals_60 : decode cX7_signals 60 = .ok (.iload_n 2, 1) := by decide +kernel
theorem dX7_signals_61 : decode cX7_signals 61 = .ok (.aload_n 0, 1) := by decide +kernel
theorem dX7_signals_62 : decode cX7_signals 62 = .ok (.getfield 7, 3) := by decide +kernel
theorem dX7_signals_65 : decode cX7_signals 65 = .ok (.bipush 6, 2) := by decide +kernel
theorem dX7_signals_67 : decode cX7_signals 67 = .ok (.iload_n 3, 1) := by decide +kernel
theorem dX7_signals_68 : decode cX7_signals 68 = .ok (.iadd, 1) := by decide +kernel
theorem dX7_signals_69 : decode cX7_signals 69 = .ok (.iaload, 1) := by decide +kernel
theorem dX7_signals_70 : decode cX7_signals 70 = .ok (.iload 4, 2) := by decide +kernel
theorem dX7_signals_72 : decode cX7_signals 72 = .ok (.iload 5, 2) := by decide +kernel
theorem dX7_signals_74 : decode cX7_signals 74 = .ok (.invokestatic 131, 3) := by decide +kernel
theorem dX7_signals_77 : decode cX7_signals 77 = .ok (.aload_n 0, 1) := by decide +kernel
theorem dX7_signals_78 : decode cX7_signals 78 = .ok (.getfield 7, 3) := by decide +kernel
theorem dX7_signals_81 : decode cX7_signals 81 = .ok (.iconst 0, 1) := by decide +kernel
theorem dX7_signals_82 : decode cX7_signals 82 = .ok (.iaload, 1) := by decide +kernel
theorem dX7_signals_83 : decode cX7_signals 83 = .ok (.iload_n 3, 1) := by decide +kernel
theorem dX7_signals_84 : decode cX7_signals 84 = .ok (.iadd, 1) := by decide +kernel
theorem dX7_signals_85 : decode cX7_signals 85 = .ok (.ishl, 1) := by decide +kernel
theorem dX7_signals_86 : decode cX7_signals 86 = .ok (.ior, 1) := by decide +kernel
theorem dX7_signals_87 : decode cX7_signals 87 = .ok (.istore_n 2, 1) := by decide +kernel
theorem dX7_signals_88 : decode cX7_signals 88 = .ok (.iinc 3 1, 3) := by decide +kernel
theorem dX7_signals_91 : decode cX7_signals 91 = .ok (.goto (-87), 3) := by decide +kernel
theorem dX7_signals_94 : decode cX7_signals 94 = .ok (.iload_n 2, 1) := by decide +kernel
theorem dX7_signals_95 : decode cX7_signals 95 = .ok (.ireturn, 1) := by decide +kernel
theorem dX7_stand_0 : decode cX7_stand 0 = .ok (.aload_n 0, 1) := by decide +kernel
theorem dX7_stand_1 : decode cX7_stand 1 = .ok (.iload_n 1, 1) := by decide +kernel
theorem dX7_stand_2 : decode cX7_stand 2 = .ok (.invokevirtual 135, 3) := by decide +kernel
theorem dX7_stand_5 : decode cX7_stand 5 = .ok (.istore_n 2, 1) := by decide +kernel
theorem dX7_stand_6 : decode cX7_stand 6 = .ok (.iconst 0, 1) := by decide +kernel
theorem dX7_stand_7 : decode cX7_stand 7 = .ok (.istore_n 3, 1) := by decide +kernel
theorem dX7_stand_8 : decode cX7_stand 8 = .ok (.iconst 0, 1) := by decide +kernel
theorem dX7_stand_9 : decode cX7_stand 9 = .ok (.istore 4, 2) := by decide +kernel
theorem dX7_stand_11 : decode cX7_stand 11 = .ok (.iload 4, 2) := by decide +kernel
theorem dX7_stand_13 : decode cX7_stand 13 = .ok (.aload_n 0, 1) := by decide +kernel
theorem dX7_stand_14 : decode cX7_stand 14 = .ok (.getfield 7, 3) := by decide +kernel
theorem dX7_stand_17 : decode cX7_stand 17 = .ok (.iconst 2, 1) := by decide +kernel
theorem dX7_stand_18 : decode cX7_stand 18 = .ok (.iaload, 1) := by decide +kernel
theorem dX7_stand_19 : decode cX7_stand 19 = .ok (.if_icmp .ge 29, 3) := by decide +kernel
theorem dX7_stand_22 : decode cX7_stand 22 = .ok (.iload_n 3, 1) := by decide +kernel
theorem dX7_stand_23 : decode cX7_stand 23 = .ok (.iload_n 2, 1) := by decide +kernel
theorem dX7_stand_24 : decode cX7_stand 24 = .ok (.aload_n 0, 1) := by decide +kernel
theorem dX7_stand_25 : decode cX7_stand 25 = .ok (.getfield 7, 3) := by decide +kernel
theorem dX7_stand_28 : decode cX7_stand 28 = .ok (.bipush 42, 2) := by decide +kernel
theorem dX7_stand_30 : decode cX7_stand 30 = .ok (.iload 4, 2) := by decide +kernel
theorem dX7_stand_32 : decode cX7_stand 32 = .ok (.iadd, 1) := by decide +kernel
theorem dX7_stand_33 : decode cX7_stand 33 = .ok (.iaload, 1) := by decide +kernel
theorem dX7_stand_34 : decode cX7_stand 34 = .ok (.ishr, 1) := by decide +kernel
theorem dX7_stand_35 : decode cX7_stand 35 = .ok (.iconst 1, 1) := by decide +kernel
theorem dX7_stand_36 : decode cX7_stand 36 = .ok (.iand, 1) := by decide +kernel
theorem dX7_stand_37 : decode cX7_stand 37 = .ok (.iload 4, 2) := by decide +kernel
theorem dX7_stand_39 : decode cX7_stand 39 = .ok (.ishl, 1) := by decide +kernel
theorem dX7_stand_40 : decode cX7_stand 40 = .ok (.iadd, 1) := by decide +kernel
theorem dX7_stand_41 : decode cX7_stand 41 = .ok (.istore_n 3, 1) := by decide +kernel
theorem dX7_stand_42 : decode cX7_stand 42 = .ok (.iinc 4 1, 3) := by decide +kernel
theorem dX7_stand_45 : decode cX7_stand 45 = .ok (.goto (-34), 3) := by decide +kernel
theorem dX7_stand_48 : decode cX7_stand 48 = .ok (.iload_n 3, 1) := by decide +kernel
theorem dX7_stand_49 : decode cX7_stand 49 = .ok (.ireturn, 1) := by decide +kernel
theorem dX7_task_0 : decode cX7_task 0 = .ok (.iload_n 1, 1) := by decide +kernel
theorem dX7_task_1 : decode cX7_task 1 = .ok (.iconst 1, 1) := by decide +kernel
theorem dX7_task_2 : decode cX7_task 2 = .ok (.aload_n 0, 1) := by decide +kernel
theorem dX7_task_3 : decode cX7_task 3 = .ok (.getfield 7, 3) := by decide +kernel
theorem dX7_task_6 : decode cX7_task 6 = .ok (.iconst 4, 1) := by decide +kernel
theorem dX7_task_7 : decode cX7_task 7 = .ok (.iaload, 1) := by decide +kernel
theorem dX7_task_8 : decode cX7_task 8 = .ok (.ishl, 1) := by decide +kernel
theorem dX7_task_9 : decode cX7_task 9 = .ok (.iconst 1, 1) := by decide +kernel
theorem dX7_task_10 : decode cX7_task 10 = .ok (.isub, 1) := by decide +kernel
theorem dX7_task_11 : decode cX7_task 11 = .ok (.iand, 1) := by decide +kernel
theorem dX7_task_12 : decode cX7_task 12 = .ok (.istore_n 2, 1) := by decide +kernel
theorem dX7_task_13 : decode cX7_task 13 = .ok (.iload_n 1, 1) := by decide +kernel
theorem dX7_task_14 : decode cX7_task 14 = .ok (.aload_n 0, 1) := by decide +kernel
theorem dX7_task_15 : decode cX7_task 15 = .ok (.getfield 7, 3) := by decide +kernel
theorem dX7_task_18 : decode cX7_task 18 = .ok (.iconst 4, 1) := by decide +kernel
theorem dX7_task_19 : decode cX7_task 19 = .ok (.iaload, 1) := by decide +kernel
theorem dX7_task_20 : decode cX7_task 20 = .ok (.ishr, 1) := by decide +kernel
theorem dX7_task_21 : decode cX7_task 21 = .ok (.iconst 1, 1) := by decide +kernel
theorem dX7_task_22 : decode cX7_task 22 = .ok (.aload_n 0, 1) := by decide +kernel
theorem dX7_task_23 : decode cX7_task 23 = .ok (.getfield 7, 3) := by decide +kernel
theorem dX7_task_26 : decode cX7_task 26 = .ok (.iconst 5, 1) := by decide +kernel
theorem dX7_task_27 : decode cX7_task 27 = .ok (.iaload, 1) := by decide +kernel
