theorem dX11_init_185 : decode cX11_init 185 = .ok (.bipush 22, 2) := by decide +kernel
theorem dX11_init_187 : decode cX11_init 187 = .ok (.bipush 114, 2) := by decide +kernel
theorem dX11_init_189 : decode cX11_init 189 = .ok (.castore, 1) := by decide +kernel
theorem dX11_init_190 : decode cX11_init 190 = .ok (.dup, 1) := by decide +kernel
theorem dX11_init_191 : decode cX11_init 191 = .ok (.bipush 23, 2) := by decide +kernel
theorem dX11_init_193 : decode cX11_init 193 = .ok (.bipush 32, 2) := by decide +kernel
theorem dX11_init_195 : decode cX11_init 195 = .ok (.castore, 1) := by decide +kernel
theorem dX11_init_196 : decode cX11_init 196 = .ok (.dup, 1) := by decide +kernel
theorem dX11_init_197 : decode cX11_init 197 = .ok (.bipush 24, 2) := by decide +kernel
theorem dX11_init_199 : decode cX11_init 199 = .ok (.bipush 115, 2) := by decide +kernel
theorem dX11_init_201 : decode cX11_init 201 = .ok (.castore, 1) := by decide +kernel
theorem dX11_init_202 : decode cX11_init 202 = .ok (.dup, 1) := by decide +kernel
theorem dX11_init_203 : decode cX11_init 203 = .ok (.bipush 25, 2) := by decide +kernel
theorem dX11_init_205 : decode cX11_init 205 = .ok (.bipush 116, 2) := by decide +kernel
theorem dX11_init_207 : decode cX11_init 207 = .ok (.castore, 1) := by decide +kernel
theorem dX11_init_208 : decode cX11_init 208 = .ok (.dup, 1) := by decide +kernel
theorem dX11_init_209 : decode cX11_init 209 = .ok (.bipush 26, 2) := by decide +kernel
theorem dX11_init_211 : decode cX11_init 211 = .ok (.bipush 111, 2) := by decide +kernel
theorem dX11_init_213 : decode cX11_init 213 = .ok (.castore, 1) := by decide +kernel
theorem dX11_init_214 : decode cX11_init 214 = .ok (.dup, 1) := by decide +kernel
theorem dX11_init_215 : decode cX11_init 215 = .ok (.bipush 27, 2) := by decide +kernel
theorem dX11_init_217 : decode cX11_init 217 = .ok (.bipush 107, 2) := by decide +kernel
theorem dX11_init_219 : decode cX11_init 219 = .ok (.castore, 1) := by decide +kernel
theorem dX11_init_220 : decode cX11_init 220 = .ok (.dup, 1) := by decide +kernel
theorem dX11_init_221 : decode cX11_init 221 = .ok (.bipush 28, 2) := by decide +kernel
theorem dX11_init_223 : decode cX11_init 223 = .ok (.bipush 101, 2) := by decide +kernel
theorem dX11_init_225 : decode cX11_init 225 = .ok (.castore, 1) := by decide +kernel
theorem dX11_init_226 : decode cX11_init 226 = .ok (.dup, 1) := by decide +kernel
theorem dX11_init_227 : decode cX11_init 227 = .ok (.bipush 29, 2) := by decide +kernel
theorem dX11_init_229 : decode cX11_init 229 = .ok (.bipush 114, 2) := by decide +kernel
theorem dX11_init_231 : decode cX11_init 231 = .ok (.castore, 1) := by decide +kernel
theorem dX11_init_232 : decode cX11_init 232 = .ok (.dup, 1) := by decide +kernel
theorem dX11_init_233 : decode cX11_init 233 = .ok (.bipush 30, 2) := by decide +kernel
theorem dX11_init_235 : decode cX11_init 235 = .ok (.bipush 32, 2) := by decide +kernel
theorem dX11_init_237 : decode cX11_init 237 = .ok (.castore, 1) := by decide +kernel
theorem dX11_init_238 : decode cX11_init 238 = .ok (.dup, 1) := by decide +kernel
theorem dX11_init_239 : decode cX11_init 239 = .ok (.bipush 31, 2) := by decide +kernel
theorem dX11_init_241 : decode cX11_init 241 = .ok (.bipush 32, 2) := by decide +kernel
theorem dX11_init_243 : decode cX11_init 243 = .ok (.castore, 1) := by decide +kernel
theorem dX11_init_244 : decode cX11_init 244 = .ok (.dup, 1) := by decide +kernel
theorem dX11_init_245 : decode cX11_init 245 = .ok (.bipush 32, 2) := by decide +kernel
theorem dX11_init_247 : decode cX11_init 247 = .ok (.bipush 119, 2) := by decide +kernel
theorem dX11_init_249 : decode cX11_init 249 = .ok (.castore, 1) := by decide +kernel
theorem dX11_init_250 : decode cX11_init 250 = .ok (.dup, 1) := by decide +kernel
theorem dX11_init_251 : decode cX11_init 251 = .ok (.bipush 33, 2) := by decide +kernel
theorem dX11_init_253 : decode cX11_init 253 = .ok (.bipush 105, 2) := by decide +kernel
theorem dX11_init_255 : decode cX11_init 255 = .ok (.castore, 1) := by decide +kernel
theorem dX11_init_256 : decode cX11_init 256 = .ok (.dup, 1) := by decide +kernel
theorem dX11_init_257 : decode cX11_init 257 = .ok (.bipush 34, 2) := by decide +kernel
theorem dX11_init_259 : decode cX11_init 259 = .ok (.bipush 100, 2) := by decide +kernel
theorem dX11_init_261 : decode cX11_init 261 = .ok (.castore, 1) := by decide +kernel
theorem dX11_init_262 : decode cX11_init 262 = .ok (.dup, 1) := by decide +kernel
theorem dX11_init_263 : decode cX11_init 263 = .ok (.bipush 35, 2) := by decide +kernel
theorem dX11_init_265 : decode cX11_init 265 = .ok (.bipush 111, 2) := by decide +kernel
theorem dX11_init_267 : decode cX11_init 267 = .ok (.castore, 1) := by decide +kernel
theorem dX11_init_268 : decode cX11_init 268 = .ok (.dup, 1) := by decide +kernel
theorem dX11_init_269 : decode cX11_init 269 = .ok (.bipush 36, 2) := by decide +kernel
theorem dX11_init_271 : decode cX11_init 271 = .ok (.bipush 119, 2) := by decide +kernel
theorem dX11_init_273 : decode cX11_init 273 = .ok (.castore, 1) := by decide +kernel
theorem dX11_init_274 : decode cX11_init 274 = .ok (.dup, 1) := by decide +kernel
theorem dX11_init_275 : decode cX11_init 275 = .ok (.bipush 37, 2) := by decide +kernel
theorem dX11_init_277 : decode cX11_init 277 = .ok (.bipush 32, 2) := by decide +kernel
theorem dX11_init_279 : decode cX11_init 279 = .ok (.castore, 1) := by decide +kernel
theorem dX11_init_280 : decode cX11_init 280 = .ok (.dup, 1) := by decide +kernel
theorem dX11_init_281 : decode cX11_init 281 = .ok (.bipush 38, 2) := by decide +kernel
theorem dX11_init_283 : decode cX11_init 283 = .ok (.bipush 32, 2) := by decide +kernel
theorem dX11_init_285 : decode cX11_init 285 = .ok (.castore, 1) := by decide +kernel
theorem dX11_init_286 : decode cX11_init 286 = .ok (.dup, 1) := by decide +kernel
theorem dX11_init_287 : decode cX11_init 287 = .ok (.bipush 39, 2) := by decide +kernel
theorem dX11_init_289 : decode cX11_init 289 = .ok (.bipush 32, 2) := by decide +kernel
theorem dX11_init_291 : decode cX11_init 291 = .ok (.castore, 1) := by decide +kernel
theorem dX11_init_292 : decode cX11_init 292 = .ok (.dup, 1) := by decide +kernel
theorem dX11_init_293 : decode cX11_init 293 = .ok (.bipush 40, 2) := by decide +kernel
theorem dX11_init_295 : decode cX11_init 295 = .ok (.bipush 99, 2) := by decide +kernel
theorem dX11_init_297 : decode cX11_init 297 = .ok (.castore, 1) := by decide +kernel
theorem dX11_init_298 : decode cX11_init 298 = .ok (.dup, 1) := by decide +kernel
theorem dX11_init_299 : decode cX11_init 299 = .ok (.bipush 41, 2) := by decide +kernel
theorem dX11_init_301 : decode cX11_init 301 = .ok (.bipush 104, 2) := by decide +kernel
theorem dX11_init_303 : decode cX11_init 303 = .ok (.castore, 1) := by decide +kernel
theorem dX11_init_304 : decode cX11_init 304 = .ok (.dup, 1) := by decide +kernel
theorem dX11_init_305 : decode cX11_init 305 = .ok (.bipush 42, 2) := by decide +kernel
theorem dX11_init_307 : decode cX11_init 307 = .ok (.bipush 105, 2) := by decide +kernel
theorem dX11_init_309 : decode cX11_init 309 = .ok (.castore, 1) := by decide +kernel
theorem dX11_init_310 : decode cX11_init 310 = .ok (.dup, 1) := by decide +kernel
theorem dX11_init_311 : decode cX11_init 311 = .ok (.bipush 43, 2) := by decide +kernel
theorem dX11_init_313 : decode cX11_init 313 = .ok (.bipush 108, 2) := by decide +kernel
theorem dX11_init_315 : decode cX11_init 315 = .ok (.castore, 1) := by decide +kernel
theorem dX11_init_316 : decode cX11_init 316 = .ok (.dup, 1) := by decide +kernel
theorem dX11_init_317 : decode cX11_init 317 = .ok (.bipush 44, 2) := by decide +kernel
theorem dX11_init_319 : decode cX11_init 319 = .ok (.bipush 100, 2) := by decide +kernel
theorem dX11_init_321 : decode cX11_init 321 = .ok (.castore, 1) := by decide +kernel
theorem dX11_init_322 : decode cX11_init 322 = .ok (.dup, 1) := by decide +kernel
theorem dX11_init_323 : decode cX11_init 323 = .ok (.bipush 45, 2) := by decide +kernel
theorem dX11_init_325 : decode cX11_init 325 = .ok (.bipush 32, 2) := by decide +kernel
theorem dX11_init_327 : decode cX11_init 327 = .ok (.castore, 1) := by decide +kernel
theorem dX11_init_328 : decode cX11_init 328 = .ok (.dup, 1) := by decide +kernel
theorem dX11_init_329 : decode cX11_init 329 = .ok (.bipush 46, 2) := by decide +kernel
theorem dX11_init_331 : decode cX11_init 331 = .ok (.bipush 32, 2) := by decide +kernel
theorem dX11_init_333 : decode cX11_init 333 = .ok (.castore, 1) := by decide +kernel
theorem dX11_init_334 : decode cX11_init 334 = .ok (.dup, 1) := by decide +kernel
theorem dX11_init_335 : decode cX11_init 335 = .ok (.bipush 47, 2) := by decide +kernel
theorem dX11_init_337 : decode cX11_init 337 = .ok (.bipush 32, 2) := by decide +kernel
theorem dX11_init_339 : decode cX11_init 339 = .ok (.castore, 1) := by decide +kernel
theorem dX11_init_340 : decode cX11_init 340 = .ok (.dup, 1) := by decide +kernel
theorem dX11_init_341 : decode cX11_init 341 = .ok (.bipush 48, 2) := by decide +kernel
theorem dX11_init_343 : decode cX11_init 343 = .ok (.bipush 102, 2) := by decide +kernel
theorem dX11_init_345 : decode cX11_init 345 = .ok (.castore, 1) := by decide +kernel
theorem dX11_init_346 : decode cX11_init 346 = .ok (.dup, 1) := by decide +kernel
theorem dX11_init_347 : decode cX11_init 347 = .ok (.bipush 49, 2) := by decide +kernel
theorem dX11_init_349 : decode cX11_init 349 = .ok (.bipush 111, 2) := by decide +kernel
theorem dX11_init_351 : decode cX11_init 351 = .ok (.castore, 1) := by decide +kernel
theorem dX11_init_352 : decode cX11_init 352 = .ok (.dup, 1) := by decide +kernel
theorem dX11_init_353 : decode cX11_init 353 = .ok (.bipush 50, 2) := by decide +kernel
theorem dX11_init_355 : decode cX11_init 355 = .ok (.bipush 103, 2) := by decide +kernel
theorem dX11_init_357 : decode cX11_init 357 = .ok (.castore, 1) := by decide +kernel
theorem dX11_init_358 : decode cX11_init 358 = .ok (.dup, 1) := by decide +kernel
theorem dX11_init_359 : decode cX11_init 359 = .ok (.bipush 51, 2) := by decide +kernel
theorem dX11_init_361 : decode cX11_init 361 = .ok (.bipush 32, 2) := by decide +kernel
theorem dX11_init_363 : decode cX11_init 363 = .ok (.castore, 1) := by decide +kernel
theorem dX11_init_364 : decode cX11_init 364 = .ok (.dup, 1) := by decide +kernel
theorem dX11_init_365 : decode cX11_init 365 = .ok (.bipush 52, 2) := by decide +kernel
theorem dX11_init_367 : decode cX11_init 367 = .ok (.bipush 32, 2) := by decide +kernel
theorem dX11_init_369 : decode cX11_init 369 = .ok (.castore, 1) := by decide +kernel
theorem dX11_init_370 : decode cX11_init 370 = .ok (.dup, 1) := by decide +kernel
theorem dX11_init_371 : decode cX11_init 371 = .ok (.bipush 53, 2) := by decide +kernel
theorem dX11_init_373 : decode cX11_init 373 = .ok (.bipush 32, 2) := by decide +kernel
theorem dX11_init_375 : decode cX11_init 375 = .ok (.castore, 1) := by decide +kernel
theorem dX11_init_376 : decode cX11_init 376 = .ok (.dup, 1) := by decide +kernel
theorem dX11_init_377 : decode cX11_init 377 = .ok (.bipush 54, 2) := by decide +kernel
theorem dX11_init_379 : decode cX11_init 379 = .ok (.bipush 32, 2) := by decide +kernel
theorem dX11_init_381 : decode cX11_init 381 = .ok (.castore, 1) := by decide +kernel
theorem dX11_init_382 : decode cX11_init 382 = .ok (.dup, 1) := by decide +kernel
theorem dX11_init_383 : decode cX11_init 383 = .ok (.bipush 55, 2) := by decide +kernel
theorem dX11_init_385 : decode cX11_init 385 = .ok (.bipush 32, 2) := by decide +kernel
theorem dX11_init_387 : decode cX11_init 387 = .ok (.castore, 1) := by decide +kernel
theorem dX11_init_388 : decode cX11_init 388 = .ok (.dup, 1) := by decide +kernel
theorem dX11_init_389 : decode cX11_init 389 = .ok (.bipush 56, 2) := by decide +kernel
theorem dX11_init_391 : decode cX11_init 391 = .ok (.bipush 97, 2) := by decide +kernel
theorem dX11_init_393 : decode cX11_init 393 = .ok (.castore, 1) := by decide +kernel
theorem dX11_init_394 : decode cX11_init 394 = .ok (.dup, 1) := by decide +kernel
theorem dX11_init_395 : decode cX11_init 395 = .ok (.bipush 57, 2) := by decide +kernel
theorem dX11_init_397 : decode cX11_init 397 = .ok (.bipush 114, 2) := by decide +kernel
theorem dX11_init_399 : decode cX11_init 399 = .ok (.castore, 1) := by decide +kernel
theorem dX11_init_400 : decode cX11_init 400 = .ok (.dup, 1) := by decide +kernel
theorem dX11_init_401 : decode cX11_init 401 = .ok (.bipush 58, 2) := by decide +kernel
theorem dX11_init_403 : decode cX11_init 403 = .ok (.bipush 109, 2) := by decide +kernel
theorem dX11_init_405 : decode cX11_init 405 = .ok (.castore, 1) := by decide +kernel
theorem dX11_init_406 : decode cX11_init 406 = .ok (.dup, 1) := by decide +kernel
theorem dX11_init_407 : decode cX11_init 407 = .ok (.bipush 59, 2) := by decide +kernel
theorem dX11_init_409 : decode cX11_init 409 = .ok (.bipush 115, 2) := by decide +kernel
theorem dX11_init_411 : decode cX11_init 411 = .ok (.castore, 1) := by decide +kernel
theorem dX11_init_412 : decode cX11_init 412 = .ok (.dup, 1) := by decide +kernel
theorem dX11_init_413 : decode cX11_init 413 = .ok (.bipush 60, 2) := by decide +kernel
theorem dX11_init_415 : decode cX11_init 415 = .ok (.bipush 32, 2) := by decide +kernel
theorem dX11_init_417 : decode cX11_init 417 = .ok (.castore, 1) := by decide +kernel
theorem dX11_init_418 : decode cX11_init 418 = .ok (.dup, 1) := by decide +kernel
theorem dX11_init_419 : decode cX11_init 419 = .ok (.bipush 61, 2) := by decide +kernel
theorem dX11_init_421 : decode cX11_init 421 = .ok (.bipush 32, 2) := by decide +kernel
theorem dX11_init_423 : decode cX11_init 423 = .ok (.castore, 1) := by decide +kernel
theorem dX11_init_424 : decode cX11_init 424 = .ok (.dup, 1) := by decide +kernel
theorem dX11_init_425 : decode cX11_init 425 = .ok (.bipush 62, 2) := by decide +kernel
theorem dX11_init_427 : decode cX11_init 427 = .ok (.bipush 32, 2) := by decide +kernel
theorem dX11_init_429 : decode cX11_init 429 = .ok (.castore, 1) := by decide +kernel
theorem dX11_init_430 : decode cX11_init 430 = .ok (.dup, 1) := by decide +kernel
theorem dX11_init_431 : decode cX11_init 431 = .ok (.bipush 63, 2) := by decide +kernel
theorem dX11_init_433 : decode cX11_init 433 = .ok (.bipush 32, 2) := by decide +kernel
theorem dX11_init_435 : decode cX11_init 435 = .ok (.castore, 1) := by decide +kernel
theorem dX11_init_436 : decode cX11_init 436 = .ok (.dup, 1) := by decide +kernel
theorem dX11_init_437 : decode cX11_init 437 = .ok (.bipush 64, 2) := by decide +kernel
theorem dX11_init_439 : decode cX11_init 439 = .ok (.bipush 104, 2) := by decide +kernel
theorem dX11_init_441 : decode cX11_init 441 = .ok (.castore, 1) := by decide +kernel
theorem dX11_init_442 : decode cX11_init 442 = .ok (.dup, 1) := by decide +kernel
theorem dX11_init_443 : decode cX11_init 443 = .ok (.bipush 65, 2) := by decide +kernel
theorem dX11_init_445 : decode cX11_init 445 = .ok (.bipush 117, 2) := by decide +kernel
theorem dX11_init_447 : decode cX11_init 447 = .ok (.castore, 1) := by decide +kernel
theorem dX11_init_448 : decode cX11_init 448 = .ok (.dup, 1) := by decide +kernel
theorem dX11_init_449 : decode cX11_init 449 = .ok (.bipush 66, 2) := by decide +kernel
theorem dX11_init_451 : decode cX11_init 451 = .ok (.bipush 109, 2) := by decide +kernel
theorem dX11_init_453 : decode cX11_init 453 = .ok (.castore, 1) := by decide +kernel
theorem dX11_init_454 : decode cX11_init 454 = .ok (.dup, 1) := by decide +kernel
theorem dX11_init_455 : decode cX11_init 455 = .ok (.bipush 67, 2) := by decide +kernel
theorem dX11_init_457 : decode cX11_init 457 = .ok (.bipush 32, 2) := by decide +kernel
theorem dX11_init_459 : decode cX11_init 459 = .ok (.castore, 1) := by decide +kernel
theorem dX11_init_460 : decode cX11_init 460 = .ok (.dup, 1) := by decide +kernel
theorem dX11_init_461 : decode cX11_init 461 = .ok (.bipush 68, 2) := by decide +kernel
theorem dX11_init_463 : decode cX11_init 463 = .ok (.bipush 32, 2) := by decide +kernel
theorem dX11_init_465 : decode cX11_init 465 = .ok (.castore, 1) := by decide +kernel
theorem dX11_init_466 : decode cX11_init 466 = .ok (.dup, 1) := by decide +kernel
theorem dX11_init_467 : decode cX11_init 467 = .ok (.bipush 69, 2) := by decide +kernel
theorem dX11_init_469 : decode cX11_init 469 = .ok (.bipush 32, 2) := by decide +kernel
theorem dX11_init_471 : decode cX11_init 471 = .ok (.castore, 1) := by decide +kernel
theorem dX11_init_472 : decode cX11_init 472 = .ok (.dup, 1) := by decide +kernel
theorem dX11_init_473 : decode cX11_init 473 = .ok (.bipush 70, 2) := by decide +kernel
theorem dX11_init_475 : decode cX11_init 475 = .ok (.bipush 32, 2) := by decide +kernel
theorem dX11_init_477 : decode cX11_init 477 = .ok (.castore, 1) := by decide +kernel
theorem dX11_init_478 : decode cX11_init 478 = .ok (.dup, 1) := by decide +kernel
theorem dX11_init_479 : decode cX11_init 479 = .ok (.bipush 71, 2) := by decide +kernel
theorem dX11_init_481 : decode cX11_init 481 = .ok (.bipush 32, 2) := by decide +kernel
theorem dX11_init_483 : decode cX11_init 483 = .ok (.castore, 1) := by decide +kernel
theorem dX11_init_484 : decode cX11_init 484 = .ok (.dup, 1) := by decide +kernel
theorem dX11_init_485 : decode cX11_init 485 = .ok (.bipush 72, 2) := by decide +kernel
theorem dX11_init_487 : decode cX11_init 487 = .ok (.bipush 100, 2) := by decide +kernel
theorem dX11_init_489 : decode cX11_init 489 = .ok (.castore, 1) := by decide +kernel
theorem dX11_init_490 : decode cX11_init 490 = .ok (.dup, 1) := by decide +kernel
theorem dX11_init_491 : decode cX11_init 491 = .ok (.bipush 73, 2) := by decide +kernel
theorem dX11_init_493 : decode cX11_init 493 = .ok (.bipush 114, 2) := by decide +kernel
theorem dX11_init_495 : decode cX11_init 495 = .ok (.castore, 1) := by decide +kernel
theorem dX11_init_496 : decode cX11_init 496 = .ok (.dup, 1) := by decide +kernel
theorem dX11_init_497 : decode cX11_init 497 = .ok (.bipush 74, 2) := by decide +kernel
theorem dX11_init_499 : decode cX11_init 499 = .ok (.bipush 101, 2) := by decide +kernel
theorem dX11_init_501 : decode cX11_init 501 = .ok (.castore, 1) := by decide +kernel
theorem dX11_init_502 : decode cX11_init 502 = .ok (.dup, 1) := by decide +kernel
theorem dX11_init_503 : decode cX11_init 503 = .ok (.bipush 75, 2) := by decide +kernel
theorem dX11_init_505 : decode cX11_init 505 = .ok (.bipush 97, 2) := by decide +kernel
theorem dX11_init_507 : decode cX11_init 507 = .ok (.castore, 1) := by decide +kernel
theorem dX11_init_508 : decode cX11_init 508 = .ok (.dup, 1) := by decide +kernel
theorem dX11_init_509 : decode cX11_init 509 = .ok (.bipush 76, 2) := by decide +kernel
theorem dX11_init_511 : decode cX11_init 511 = .ok (.bipush 100, 2) := by decide +kernel
theorem dX11_init_513 : decode cX11_init 513 = .ok (.castore, 1) := by decide +kernel
theorem dX11_init_514 : decode cX11_init 514 = .ok (.dup, 1) := by decide +kernel
theorem dX11_init_515 : decode cX11_init 515 = .ok (.bipush 77, 2) := by decide +kernel
theorem dX11_init_517 : decode cX11_init 517 = .ok (.bipush 32, 2) := by decide +kernel
theorem dX11_init_519 : decode cX11_init 519 = .ok (.castore, 1) := by decide +kernel
theorem dX11_init_520 : decode cX11_init 520 = .ok (.dup, 1) := by decide +kernel
theorem dX11_init_521 : decode cX11_init 521 = .ok (.bipush 78, 2) := by decide +kernel
theorem dX11_init_523 : decode cX11_init 523 = .ok (.bipush 32, 2) := by decide +kernel
theorem dX11_init_525 : decode cX11_init 525 = .ok (.castore, 1) := by decide +kernel
theorem dX11_init_526 : decode cX11_init 526 = .ok (.dup, 1) := by decide +kernel
theorem dX11_init_527 : decode cX11_init 527 = .ok (.bipush 79, 2) := by decide +kernel
theorem dX11_init_529 : decode cX11_init 529 = .ok (.bipush 32, 2) := by decide +kernel
theorem dX11_init_531 : decode cX11_init 531 = .ok (.castore, 1) := by decide +kernel
theorem dX11_init_532 : decode cX11_init 532 = .ok (.dup, 1) := by decide +kernel
theorem dX11_init_533 : decode cX11_init 533 = .ok (.bipush 80, 2) := by decide +kernel
theorem dX11_init_535 : decode cX11_init 535 = .ok (.bipush 108, 2) := by decide +kernel
theorem dX11_init_537 : decode cX11_init 537 = .ok (.castore, 1) := by decide +kernel
theorem dX11_init_538 : decode cX11_init 538 = .ok (.dup, 1) := by decide +kernel
theorem dX11_init_539 : decode cX11_init 539 = .ok (.bipush 81, 2) := by decide +kernel
theorem dX11_init_541 : decode cX11_init 541 = .ok (.bipush 111, 2) := by decide +kernel
theorem dX11_init_543 : decode cX11_init 543 = .ok (.castore, 1) := by decide +kernel
theorem dX11_init_544 : decode cX11_init 544 = .ok (.dup, 1) := by decide +kernel
theorem dX11_init_545 : decode cX11_init 545 = .ok (.bipush 82, 2) := by decide +kernel
theorem dX11_init_547 : decode cX11_init 547 = .ok (.bipush 118, 2) := by decide +kernel
theorem dX11_init_549 : decode cX11_init 549 = .ok (.castore, 1) := by decide +kernel
theorem dX11_init_550 : decode cX11_init 550 = .ok (.dup, 1) := by decide +kernel
theorem dX11_init_551 : decode cX11_init 551 = .ok (.bipush 83, 2) := by decide +kernel
theorem dX11_init_553 : decode cX11_init 553 = .ok (.bipush 101, 2) := by decide +kernel
theorem dX11_init_555 : decode cX11_init 555 = .ok (.castore, 1) := by decide +kernel
theorem dX11_init_556 : decode cX11_init 556 = .ok (.dup, 1) := by decide +kernel
theorem dX11_init_557 : decode cX11_init 557 = .ok (.bipush 84, 2) := by decide +kernel
theorem dX11_init_559 : decode cX11_init 559 = .ok (.bipush 32, 2) := by decide +kernel
theorem dX11_init_561 : decode cX11_init 561 = .ok (.castore, 1) := by decide +kernel
theorem dX11_init_562 : decode cX11_init 562 = .ok (.dup, 1) := by decide +kernel
theorem dX11_init_563 : decode cX11_init 563 = .ok (.bipush 85, 2) := by decide +kernel
theorem dX11_init_565 : decode cX11_init 565 = .ok (.bipush 32, 2) := by decide +kernel
theorem dX11_init_567 : decode cX11_init 567 = .ok (.castore, 1) := by decide +kernel
theorem dX11_init_568 : decode cX11_init 568 = .ok (.dup, 1) := by decide +kernel
theorem dX11_init_569 : decode cX11_init 569 = .ok (.bipush 86, 2) := by decide +kernel
theorem dX11_init_571 : decode cX11_init 571 = .ok (.bipush 32, 2) := by decide +kernel
theorem dX11_init_573 : decode cX11_init 573 = .ok (.castore, 1) := by decide +kernel
theorem dX11_init_574 : decode cX11_init 574 = .ok (.dup, 1) := by decide +kernel
theorem dX11_init_575 : decode cX11_init 575 = .ok (.bipush 87, 2) := by decide +kernel
theorem dX11_init_577 : decode cX11_init 577 = .ok (.bipush 32, 2) := by decide +kernel
theorem dX11_init_579 : decode cX11_init 579 = .ok (.castore, 1) := by decide +kernel
theorem dX11_init_580 : decode cX11_init 580 = .ok (.dup, 1) := by decide +kernel
theorem dX11_init_581 : decode cX11_init 581 = .ok (.bipush 88, 2) := by decide +kernel
theorem dX11_init_583 : decode cX11_init 583 = .ok (.bipush 108, 2) := by decide +kernel
theorem dX11_init_585 : decode cX11_init 585 = .ok (.castore, 1) := by decide +kernel
theorem dX11_init_586 : decode cX11_init 586 = .ok (.dup, 1) := by decide +kernel
theorem dX11_init_587 : decode cX11_init 587 = .ok (.bipush 89, 2) := by decide +kernel
theorem dX11_init_589 : decode cX11_init 589 = .ok (.bipush 97, 2) := by decide +kernel
theorem dX11_init_591 : decode cX11_init 591 = .ok (.castore, 1) := by decide +kernel
theorem dX11_init_592 : decode cX11_init 592 = .ok (.dup, 1) := by decide +kernel
theorem dX11_init_593 : decode cX11_init 593 = .ok (.bipush 90, 2) := by decide +kernel
theorem dX11_init_595 : decode cX11_init 595 = .ok (.bipush 109, 2) := by decide +kernel
theorem dX11_init_597 : decode cX11_init 597 = .ok (.castore, 1) := by decide +kernel
theorem dX11_init_598 : decode cX11_init 598 = .ok (.dup, 1) := by decide +kernel
theorem dX11_init_599 : decode cX11_init 599 = .ok (.bipush 91, 2) := by decide +kernel
theorem dX11_init_601 : decode cX11_init 601 = .ok (.bipush 112, 2) := by decide +kernel
theorem dX11_init_603 : decode cX11_init 603 = .ok (.castore, 1) := by decide +kernel
theorem dX11_init_604 : decode cX11_init 604 = .ok (.dup, 1) := by decide +kernel
theorem dX11_init_605 : decode cX11_init 605 = .ok (.bipush 92, 2) := by decide +kernel
theorem dX11_init_607 : decode cX11_init 607 = .ok (.bipush 32, 2) := by decide +kernel
theorem dX11_init_609 : decode cX11_init 609 = .ok (.castore, 1) := by decide +kernel
theorem dX11_init_610 : decode cX11_init 610 = .ok (.dup, 1) := by decide +kernel
theorem dX11_init_611 : decode cX11_init 611 = .ok (.bipush 93, 2) := by decide +kernel
theorem dX11_init_613 : decode cX11_init 613 = .ok (.bipush 32, 2) := by decide +kernel
theorem dX11_init_615 : decode cX11_init 615 = .ok (.castore, 1) := by decide +kernel
theorem dX11_init_616 : decode cX11_init 616 = .ok (.dup, 1) := by decide +kernel
theorem dX11_init_617 : decode cX11_init 617 = .ok (.bipush 94, 2) := by decide +kernel
theorem dX11_init_619 : decode cX11_init 619 = .ok (.bipush 32, 2) := by decide +kernel
theorem dX11_init_621 : decode cX11_init 621 = .ok (.castore, 1) := by decide +kernel
theorem dX11_init_622 : decode cX11_init 622 = .ok (.dup, 1) := by decide +kernel
theorem dX11_init_623 : decode cX11_init 623 = .ok (.bipush 95, 2) := by decide +kernel
theorem dX11_init_625 : decode cX11_init 625 = .ok (.bipush 32, 2) := by decide +kernel
theorem dX11_init_627 : decode cX11_init 627 = .ok (.castore, 1) := by decide +kernel
theorem dX11_init_628 : decode cX11_init 628 = .ok (.dup, 1) := by decide +kernel
theorem dX11_init_629 : decode cX11_init 629 = .ok (.bipush 96, 2) := by decide +kernel
theorem dX11_init_631 : decode cX11_init 631 = .ok (.bipush 97, 2) := by decide +kernel
theorem dX11_init_633 : decode cX11_init 633 = .ok (.castore, 1) := by decide +kernel
theorem dX11_init_634 : decode cX11_init 634 = .ok (.dup, 1) := by decide +kernel
theorem dX11_init_635 : decode cX11_init 635 = .ok (.bipush 97, 2) := by decide +kernel
theorem dX11_init_637 : decode cX11_init 637 = .ok (.bipush 116, 2) := by decide +kernel
theorem dX11_init_639 : decode cX11_init 639 = .ok (.castore, 1) := by decide +kernel
theorem dX11_init_640 : decode cX11_init 640 = .ok (.dup, 1) := by decide +kernel
theorem dX11_init_641 : decode cX11_init 641 = .ok (.bipush 98, 2) := by decide +kernel
theorem dX11_init_643 : decode cX11_init 643 = .ok (.bipush 32, 2) := by decide +kernel
theorem dX11_init_645 : decode cX11_init 645 = .ok (.castore, 1) := by decide +kernel
theorem dX11_init_646 : decode cX11_init 646 = .ok (.dup, 1) := by decide +kernel
theorem dX11_init_647 : decode cX11_init 647 = .ok (.bipush 99, 2) := by decide +kernel
theorem dX11_init_649 : decode cX11_init 649 = .ok (.bipush 32, 2) := by decide +kernel
theorem dX11_init_651 : decode cX11_init 651 = .ok (.castore, 1) := by decide +kernel
theorem dX11_init_652 : decode cX11_init 652 = .ok (.dup, 1) := by decide +kernel
theorem dX11_init_653 : decode cX11_init 653 = .ok (.bipush 100, 2) := by decide +kernel
theorem dX11_init_655 : decode cX11_init 655 = .ok (.bipush 32, 2) := by decide +kernel
theorem dX11_init_657 : decode cX11_init 657 = .ok (.castore, 1) := by decide +kernel
theorem dX11_init_658 : decode cX11_init 658 = .ok (.dup, 1) := by decide +kernel
theorem dX11_init_659 : decode cX11_init 659 = .ok (.bipush 101, 2) := by decide +kernel
theorem dX11_init_661 : decode cX11_init 661 = .ok (.bipush 32, 2) := by decide +kernel
theorem dX11_init_663 : decode cX11_init 663 = .ok (.castore, 1) := by decide +kernel
theorem dX11_init_664 : decode cX11_init 664 = .ok (.dup, 1) := by decide +kernel
theorem dX11_init_665 : decode cX11_init 665 = .ok (.bipush 102, 2) := by decide +kernel
theorem dX11_init_667 : decode cX11_init 667 = .ok (.bipush 32, 2) := by decide +kernel
theorem dX11_init_669 : decode cX11_init 669 = .ok (.castore, 1) := by decide +kernel
theorem dX11_init_670 : decode cX11_init 670 = .ok (.dup, 1) := by decide +kernel
theorem dX11_init_671 : decode cX11_init 671 = .ok (.bipush 103, 2) := by decide +kernel
theorem dX11_init_673 : decode cX11_init 673 = .ok (.bipush 32, 2) := by decide +kernel
theorem dX11_init_675 : decode cX11_init 675 = .ok (.castore, 1) := by decide +kernel
theorem dX11_init_676 : decode cX11_init 676 = .ok (.dup, 1) := by decide +kernel
theorem dX11_init_677 : decode cX11_init 677 = .ok (.bipush 104, 2) := by decide +kernel
theorem dX11_init_679 : decode cX11_init 679 = .ok (.bipush 105, 2) := by decide +kernel
theorem dX11_init_681 : decode cX11_init 681 = .ok (.castore, 1) := by decide +kernel
theorem dX11_init_682 : decode cX11_init 682 = .ok (.dup, 1) := by decide +kernel
theorem dX11_init_683 : decode cX11_init 683 = .ok (.bipush 105, 2) := by decide +kernel
theorem dX11_init_685 : decode cX11_init 685 = .ok (.bipush 115, 2) := by decide +kernel
theorem dX11_init_687 : decode cX11_init 687 = .ok (.castore, 1) := by decide +kernel
theorem dX11_init_688 : decode cX11_init 688 = .ok (.dup, 1) := by decide +kernel
theorem dX11_init_689 : decode cX11_init 689 = .ok (.bipush 106, 2) := by decide +kernel
theorem dX11_init_691 : decode cX11_init 691 = .ok (.bipush 32, 2) := by decide +kernel
theorem dX11_init_693 : decode cX11_init 693 = .ok (.castore, 1) := by decide +kernel
theorem dX11_init_694 : decode cX11_init 694 = .ok (.dup, 1) := by decide +kernel
theorem dX11_init_695 : decode cX11_init 695 = .ok (.bipush 107, 2) := by decide +kernel
theorem dX11_init_697 : decode cX11_init 697 = .ok (.bipush 32, 2) := by decide +kernel
theorem dX11_init_699 : decode cX11_init 699 = .ok (.castore, 1) := by decide +kernel
theorem dX11_init_700 : decode cX11_init 700 = .ok (.dup, 1) := by decide +kernel
theorem dX11_init_701 : decode cX11_init 701 = .ok (.bipush 108, 2) := by decide +kernel
theorem dX11_init_703 : decode cX11_init 703 = .ok (.bipush 32, 2) := by decide +kernel
theorem dX11_init_705 : decode cX11_init 705 = .ok (.castore, 1) := by decide +kernel
theorem dX11_init_706 : decode cX11_init 706 = .ok (.dup, 1) := by decide +kernel
theorem dX11_init_707 : decode cX11_init 707 = .ok (.bipush 109, 2) := by decide +kernel
theorem dX11_init_709 : decode cX11_init 709 = .ok (.bipush 32, 2) := by decide +kernel
theorem dX11_init_711 : decode cX11_init 711 = .ok (.castore, 1) := by decide +kernel
theorem dX11_init_712 : decode cX11_init 712 = .ok (.dup, 1) := by decide +kernel
theorem dX11_init_713 : decode cX11_init 713 = .ok (.bipush 110, 2) := by decide +kernel
theorem dX11_init_715 : decode cX11_init 715 = .ok (.bipush 32, 2) := by decide +kernel
theorem dX11_init_717 : decode cX11_init 717 = .ok (.castore, 1) := by decide +kernel
theorem dX11_init_718 : decode cX11_init 718 = .ok (.dup, 1) := by decide +kernel
theorem dX11_init_719 : decode cX11_init 719 = .ok (.bipush 111, 2) := by decide +kernel
theorem dX11_init_721 : decode cX11_init 721 = .ok (.bipush 32, 2) := by decide +kernel
theorem dX11_init_723 : decode cX11_init 723 = .ok (.castore, 1) := by decide +kernel
theorem dX11_init_724 : decode cX11_init 724 = .ok (.dup, 1) := by decide +kernel
theorem dX11_init_725 : decode cX11_init 725 = .ok (.bipush 112, 2) := by decide +kernel
theorem dX11_init_727 : decode cX11_init 727 = .ok (.bipush 102, 2) := by decide +kernel
theorem dX11_init_729 : decode cX11_init 729 = .ok (.castore, 1) := by decide +kernel
theorem dX11_init_730 : decode cX11_init 730 = .ok (.dup, 1) := by decide +kernel
theorem dX11_init_731 : decode cX11_init 731 = .ok (.bipush 113, 2) := by decide +kernel
theorem dX11_init_733 : decode cX11_init 733 = .ok (.bipush 97, 2) := by decide +kernel
theorem dX11_init_735 : decode cX11_init 735 = .ok (.castore, 1) := by decide +kernel
theorem dX11_init_736 : decode cX11_init 736 = .ok (.dup, 1) := by decide +kernel
theorem dX11_init_737 : decode cX11_init 737 = .ok (.bipush 114, 2) := by decide +kernel
theorem dX11_init_739 : decode cX11_init 739 = .ok (.bipush 105, 2) := by decide +kernel
theorem dX11_init_741 : decode cX11_init 741 = .ok (.castore, 1) := by decide +kernel
theorem dX11_init_742 : decode cX11_init 742 = .ok (.dup, 1) := by decide +kernel
theorem dX11_init_743 : decode cX11_init 743 = .ok (.bipush 115, 2) := by decide +kernel
theorem dX11_init_745 : decode cX11_init 745 = .ok (.bipush 116, 2) := by decide +kernel
theorem dX11_init_747 : decode cX11_init 747 = .ok (.castore, 1) := by decide +kernel
theorem dX11_init_748 : decode cX11_init 748 = .ok (.dup, 1) := by decide +kernel
theorem dX11_init_749 : decode cX11_init 749 = .ok (.bipush 116, 2) := by decide +kernel
theorem dX11_init_751 : decode cX11_init 751 = .ok (.bipush 104, 2) := by decide +kernel
theorem dX11_init_753 : decode cX11_init 753 = .ok (.castore, 1) := by decide +kernel
theorem dX11_init_754 : decode cX11_init 754 = .ok (.dup, 1) := by decide +kernel
theorem dX11_init_755 : decode cX11_init 755 = .ok (.bipush 117, 2) := by decide +kernel
theorem dX11_init_757 : decode cX11_init 757 = .ok (.bipush 32, 2) := by decide +kernel
theorem dX11_init_759 : decode cX11_init 759 = .ok (.castore, 1) := by decide +kernel
theorem dX11_init_760 : decode cX11_init 760 = .ok (.dup, 1) := by decide +kernel
theorem dX11_init_761 : decode cX11_init 761 = .ok (.bipush 118, 2) := by decide +kernel
theorem dX11_init_763 : decode cX11_init 763 = .ok (.bipush 32, 2) := by decide +kernel
theorem dX11_init_765 : decode cX11_init 765 = .ok (.castore, 1) := by decide +kernel
theorem dX11_init_766 : decode cX11_init 766 = .ok (.dup, 1) := by decide +kernel
theorem dX11_init_767 : decode cX11_init 767 = .ok (.bipush 119, 2) := by decide +kernel
theorem dX11_init_769 : decode cX11_init 769 = .ok (.bipush 32, 2) := by decide +kernel
theorem dX11_init_771 : decode cX11_init 771 = .ok (.castore, 1) := by decide +kernel
theorem dX11_init_772 : decode cX11_init 772 = .ok (.putfield 28, 3) := by decide +kernel
theorem dX11_init_775 : decode cX11_init 775 = .ok (.aload_n 0, 1) := by decide +kernel
theorem dX11_init_776 : decode cX11_init 776 = .ok (.bipush 30, 2) := by decide +kernel
theorem dX11_init_778 : decode cX11_init 778 = .ok (.newarray .int, 2) := by decide +kernel
theorem dX11_init_780 : decode cX11_init 780 = .ok (.putfield 32, 3) := by decide +kernel
theorem dX11_init_783 : decode cX11_init 783 = .ok (.aload_n 0, 1) := by decide +kernel
theorem dX11_init_784 : decode cX11_init 784 = .ok (.iconst 4, 1) := by decide +kernel
theorem dX11_init_785 : decode cX11_init 785 = .ok (.newarray .int, 2) := by decide +kernel
theorem dX11_init_787 : decode cX11_init 787 = .ok (.dup, 1) := by decide +kernel
theorem dX11_init_788 : decode cX11_init 788 = .ok (.iconst 0, 1) := by decide +kernel
theorem dX11_init_789 : decode cX11_init 789 = .ok (.iconst (-1), 1) := by decide +kernel
theorem dX11_init_790 : decode cX11_init 790 = .ok (.iastore, 1) := by decide +kernel
theorem dX11_init_791 : decode cX11_init 791 = .ok (.dup, 1) := by decide +kernel
theorem dX11_init_792 : decode cX11_init 792 = .ok (.iconst 1, 1) := by decide +kernel
theorem dX11_init_793 : decode cX11_init 793 = .ok (.iconst (-1), 1) := by decide +kernel
theorem dX11_init_794 : decode cX11_init 794 = .ok (.iastore, 1) := by decide +kernel
theorem dX11_init_795 : decode cX11_init 795 = .ok (.dup, 1) := by decide +kernel
theorem dX11_init_796 : decode cX11_init 796 = .ok (.iconst 2, 1) := by decide +kernel
theorem dX11_init_797 : decode cX11_init 797 = .ok (.iconst (-1), 1) := by decide +kernel
theorem dX11_init_798 : decode cX11_init 798 = .ok (.iastore, 1) := by decide +kernel
theorem dX11_init_799 : decode cX11_init 799 = .ok (.dup, 1) := by decide +kernel
theorem dX11_init_800 : decode cX11_init 800 = .ok (.iconst 3, 1) := by decide +kernel
theorem dX11_init_801 : decode cX11_init 801 = .ok (.iconst (-1), 1) := by decide +kernel
theorem dX11_init_802 : decode cX11_init 802 = .ok (.iastore, 1) := by decide +kernel
theorem dX11_init_803 : decode cX11_init 803 = .ok (.putfield 35, 3) := by decide +kernel
theorem dX11_init_806 : decode cX11_init 806 = .ok (.aload_n 0, 1) := by decide +kernel
theorem dX11_init_807 : decode cX11_init 807 = .ok (.iconst 4, 1) := by decide +kernel
theorem dX11_init_808 : decode cX11_init 808 = .ok (.newarray .int, 2) := by decide +kernel
theorem dX11_init_810 : decode cX11_init 810 = .ok (.putfield 38, 3) := by decide +kernel
theorem dX11_init_813 : decode cX11_init 813 = .ok (.aload_n 0, 1) := by decide +kernel
theorem dX11_init_814 : decode cX11_init 814 = .ok (.sipush 160, 3) := by decide +kernel
theorem dX11_init_817 : decode cX11_init 817 = .ok (.newarray .int, 2) := by decide +kernel
theorem dX11_init_819 : decode cX11_init 819 = .ok (.putfield 41, 3) := by decide +kernel
theorem dX11_init_822 : decode cX11_init 822 = .ok (.aload_n 0, 1) := by decide +kernel
theorem dX11_init_823 : decode cX11_init 823 = .ok (.iconst 4, 1) := by decide +kernel
theorem dX11_init_824 : decode cX11_init 824 = .ok (.newarray .int, 2) := by decide +kernel
theorem dX11_init_826 : decode cX11_init 826 = .ok (.dup, 1) := by decide +kernel
theorem dX11_init_827 : decode cX11_init 827 = .ok (.iconst 0, 1) := by decide +kernel
theorem dX11_init_828 : decode cX11_init 828 = .ok (.iconst (-1), 1) := by decide +kernel
theorem dX11_init_829 : decode cX11_init 829 = .ok (.iastore, 1) := by decide +kernel
theorem dX11_init_830 : decode cX11_init 830 = .ok (.dup, 1) := by decide +kernel
theorem dX11_init_831 : decode cX11_init 831 = .ok (.iconst 1, 1) := by decide +kernel
theorem dX11_init_832 : decode cX11_init 832 = .ok (.iconst (-1), 1) := by decide +kernel
theorem dX11_init_833 : decode cX11_init 833 = .ok (.iastore, 1) := by decide +kernel
theorem dX11_init_834 : decode cX11_init 834 = .ok (.dup, 1) := by decide +kernel
theorem dX11_init_835 : decode cX11_init 835 = .ok (.iconst 2, 1) := by decide +kernel
theorem dX11_init_836 : decode cX11_init 836 = .ok (.iconst (-1), 1) := by decide +kernel
theorem dX11_init_837 : decode cX11_init 837 = .ok (.iastore, 1) := by decide +kernel
theorem dX11_init_838 : decode cX11_init 838 = .ok (.dup, 1) := by decide +kernel
theorem dX11_init_839 : decode cX11_init 839 = .ok (.iconst 3, 1) := by decide +kernel
theorem dX11_init_840 : decode cX11_init 840 = .ok (.iconst (-1), 1) := by decide +kernel
theorem dX11_init_841 : decode cX11_init 841 = .ok (.iastore, 1) := by decide +kernel
theorem dX11_init_842 : decode cX11_init 842 = .ok (.putfield 44, 3) := by decide +kernel
theorem dX11_init_845 : decode cX11_init 845 = .ok (.aload_n 0, 1) := by decide +kernel
theorem dX11_init_846 : decode cX11_init 846 = .ok (.iconst 4, 1) := by decide +kernel
theorem dX11_init_847 : decode cX11_init 847 = .ok (.newarray .int, 2) := by decide +kernel
theorem dX11_init_849 : decode cX11_init 849 = .ok (.putfield 47, 3) := by decide +kernel
theorem dX11_init_852 : decode cX11_init 852 = .ok (.aload_n 0, 1) := by decide +kernel
theorem dX11_init_853 : decode cX11_init 853 = .ok (.bipush 30, 2) := by decide +kernel
theorem dX11_init_855 : decode cX11_init 855 = .ok (.newarray .int, 2) := by decide +kernel
theorem dX11_init_857 : decode cX11_init 857 = .ok (.putfield 50, 3) := by decide +kernel
theorem dX11_init_860 : decode cX11_init 860 = .ok (.aload_n 0, 1) := by decide +kernel
theorem dX11_init_861 : decode cX11_init 861 = .ok (.getfield 9, 3) := by decide +kernel
theorem dX11_init_864 : decode cX11_init 864 = .ok (.invokestatic 53, 3) := by decide +kernel
theorem dX11_init_867 : decode cX11_init 867 = .ok (.aload_n 0, 1) := by decide +kernel
theorem dX11_init_868 : decode cX11_init 868 = .ok (.getfield 9, 3) := by decide +kernel
theorem dX11_init_871 : decode cX11_init 871 = .ok (.iconst 5, 1) := by decide +kernel
theorem dX11_init_872 : decode cX11_init 872 = .ok (.iconst 1, 1) := by decide +kernel
theorem dX11_init_873 : decode cX11_init 873 = .ok (.iastore, 1) := by decide +kernel
theorem dX11_init_874 : decode cX11_init 874 = .ok (.return_, 1) := by decide +kernel
theorem dX11_begins_0 : decode cX11_begins 0 = .ok (.iconst 0, 1) := by decide +kernel
theorem dX11_begins_1 : decode cX11_begins 1 = .ok (.istore_n 1, 1) := by decide +kernel
theorem dX11_begins_2 : decode cX11_begins 2 = .ok (.iload_n 1, 1) := by decide +kernel
theorem dX11_begins_3 : decode cX11_begins 3 = .ok (.bipush 51, 2) := by decide +kernel
theorem dX11_begins_5 : decode cX11_begins 5 = .ok (.if_icmp .ge 13, 3) := by decide +kernel
theorem dX11_begins_8 : decode cX11_begins 8 = .ok (.aload_n 0, 1) := by decide +kernel
theorem dX11_begins_9 : decode cX11_begins 9 = .ok (.iload_n 1, 1) := by decide +kernel
theorem dX11_begins_10 : decode cX11_begins 10 = .ok (.iconst 0, 1) := by decide +kernel
theorem dX11_begins_11 : decode cX11_begins 11 = .ok (.iastore, 1) := by decide +kernel
theorem dX11_begins_12 : decode cX11_begins 12 = .ok (.iinc 1 1, 3) := by decide +kernel
theorem dX11_begins_15 : decode cX11_begins 15 = .ok (.goto (-13), 3) := by decide +kernel
theorem dX11_begins_18 : decode cX11_begins 18 = .ok (.aload_n 0, 1) := by decide +kernel
theorem dX11_begins_19 : decode cX11_begins 19 = .ok (.iconst 1, 1) := by decide +kernel
theorem dX11_begins_20 : decode cX11_begins 20 = .ok (.iconst 3, 1) := by decide +kernel
theorem dX11_begins_21 : decode cX11_begins 21 = .ok (.iastore, 1) := by decide +kernel
theorem dX11_begins_22 : decode cX11_begins 22 = .ok (.aload_n 0, 1) := by decide +kernel
theorem dX11_begins_23 : decode cX11_begins 23 = .ok (.iconst 2, 1) := by decide +kernel
theorem dX11_begins_24 : decode cX11_begins 24 = .ok (.bipush 10, 2) := by decide +kernel
theorem dX11_begins_26 : decode cX11_begins 26 = .ok (.iastore, 1) := by decide +kernel
theorem dX11_begins_27 : decode cX11_begins 27 = .ok (.aload_n 0, 1) := by decide +kernel
theorem dX11_begins_28 : decode cX11_begins 28 = .ok (.iconst 3, 1) := by decide +kernel
theorem dX11_begins_29 : decode cX11_begins 29 = .ok (.bipush 90, 2) := by decide +kernel
theorem dX11_begins_31 : decode cX11_begins 31 = .ok (.iastore, 1) := by decide +kernel
theorem dX11_begins_32 : decode cX11_begins 32 = .ok (.aload_n 0, 1) := by decide +kernel
theorem dX11_begins_33 : decode cX11_begins 33 = .ok (.iconst 4, 1) := by decide +kernel
theorem dX11_begins_34 : decode cX11_begins 34 = .ok (.bipush 20, 2) := by decide +kernel
theorem dX11_begins_36 : decode cX11_begins 36 = .ok (.iastore, 1) := by decide +kernel
theorem dX11_begins_37 : decode cX11_begins 37 = .ok (.iconst 0, 1) := by decide +kernel
theorem dX11_begins_38 : decode cX11_begins 38 = .ok (.istore_n 1, 1) := by decide +kernel
theorem dX11_begins_39 : decode cX11_begins 39 = .ok (.iload_n 1, 1) := by decide +kernel
theorem dX11_begins_40 : decode cX11_begins 40 = .ok (.bipush 6, 2) := by decide +kernel
theorem dX11_begins_42 : decode cX11_begins 42 = .ok (.if_icmp .ge 23, 3) := by decide +kernel
theorem dX11_begins_45 : decode cX11_begins 45 = .ok (.aload_n 0, 1) := by decide +kernel
theorem dX11_begins_46 : decode cX11_begins 46 = .ok (.bipush 7, 2) := by decide +kernel
theorem dX11_begins_48 : decode cX11_begins 48 = .ok (.iload_n 1, 1) := by decide +kernel
theorem dX11_begins_49 : decode cX11_begins 49 = .ok (.iadd, 1) := by decide +kernel
theorem dX11_begins_50 : decode cX11_begins 50 = .ok (.iconst 2, 1) := by decide +kernel
theorem dX11_begins_51 : decode cX11_begins 51 = .ok (.iastore, 1) := by decide +kernel
theorem dX11_begins_52 : decode cX11_begins 52 = .ok (.aload_n 0, 1) := by decide +kernel
theorem dX11_begins_53 : decode cX11_begins 53 = .ok (.bipush 13, 2) := by decide +kernel
theorem dX11_begins_55 : decode cX11_begins 55 = .ok (.iload_n 1, 1) := by decide +kernel
theorem dX11_begins_56 : decode cX11_begins 56 = .ok (.iadd, 1) := by decide +kernel
theorem dX11_begins_57 : decode cX11_begins 57 = .ok (.iconst 4, 1) := by decide +kernel
theorem dX11_begins_58 : decode cX11_begins 58 = .ok (.iastore, 1) := by decide +kernel
theorem dX11_begins_59 : decode cX11_begins 59 = .ok (.iinc 1 1, 3) := by decide +kernel
theorem dX11_begins_62 : decode cX11_begins 62 = .ok (.goto (-23), 3) := by decide +kernel
theorem dX11_begins_65 : decode cX11_begins 65 = .ok (.return_, 1) := by decide +kernel
theorem dX11_in1_0 : decode cX11_in1 0 = .ok (.iload_n 0, 1) := by decide +kernel
theorem dX11_in1_1 : decode cX11_in1 1 = .ok (.iload_n 1, 1) := by decide +kernel
theorem dX11_in1_2 : decode cX11_in1 2 = .ok (.if_icmp .lt 12, 3) := by decide +kernel
theorem dX11_in1_5 : decode cX11_in1 5 = .ok (.iload_n 0, 1) := by decide +kernel
theorem dX11_in1_6 : decode cX11_in1 6 = .ok (.iload_n 2, 1) := by decide +kernel
theorem dX11_in1_7 : decode cX11_in1 7 = .ok (.if_icmp .gt 7, 3) := by decide +kernel
theorem dX11_in1_10 : decode cX11_in1 10 = .ok (.iconst 1, 1) := by decide +kernel
theorem dX11_in1_11 : decode cX11_in1 11 = .ok (.goto 4, 3) := by decide +kernel
theorem dX11_in1_14 : decode cX11_in1 14 = .ok (.iconst 0, 1) := by decide +kernel
theorem dX11_in1_15 : decode cX11_in1 15 = .ok (.ireturn, 1) := by decide +kernel
theorem dX11_held_0 : decode cX11_held 0 = .ok (.iload_n 0, 1) := by decide +kernel
theorem dX11_held_1 : decode cX11_held 1 = .ok (.ifCond .ge 7, 3) := by decide +kernel
theorem dX11_held_4 : decode cX11_held 4 = .ok (.iconst 0, 1) := by decide +kernel
theorem dX11_held_5 : decode cX11_held 5 = .ok (.goto 13, 3) := by decide +kernel
theorem dX11_held_8 : decode cX11_held 8 = .ok (.iload_n 0, 1) := by decide +kernel
theorem dX11_held_9 : decode cX11_held 9 = .ok (.iload_n 1, 1) := by decide +kernel
theorem dX11_held_10 : decode cX11_held 10 = .ok (.if_icmp .le 7, 3) := by decide +kernel
theorem dX11_held_13 : decode cX11_held 13 = .ok (.iload_n 1, 1) := by decide +kernel
theorem dX11_held_14 : decode cX11_held 14 = .ok (.goto 4, 3) := by decide +kernel
theorem dX11_held_17 : decode cX11_held 17 = .ok (.iload_n 0, 1) := by decide +kernel
theorem dX11_held_18 : decode cX11_held 18 = .ok (.ireturn, 1) := by decide +kernel
theorem dX11_copies_0 : decode cX11_copies 0 = .ok (.iconst 0, 1) := by decide +kernel
theorem dX11_copies_1 : decode cX11_copies 1 = .ok (.istore_n 2, 1) := by decide +kernel
theorem dX11_copies_2 : decode cX11_copies 2 = .ok (.iload_n 2, 1) := by decide +kernel
theorem dX11_copies_3 : decode cX11_copies 3 = .ok (.bipush 51, 2) := by decide +kernel
theorem dX11_copies_5 : decode cX11_copies 5 = .ok (.if_icmp .ge 15, 3) := by decide +kernel
theorem dX11_copies_8 : decode cX11_copies 8 = .ok (.aload_n 1, 1) := by decide +kernel
theorem dX11_copies_9 : decode cX11_copies 9 = .ok (.iload_n 2, 1) := by decide +kernel
theorem dX11_copies_10 : decode cX11_copies 10 = .ok (.aload_n 0, 1) := by decide +kernel
theorem dX11_copies_11 : decode cX11_copies 11 = .ok (.iload_n 2, 1) := by decide +kernel
theorem dX11_copies_12 : decode cX11_copies 12 = .ok (.iaload, 1) := by decide +kernel
theorem dX11_copies_13 : decode cX11_copies 13 = .ok (.iastore, 1) := by decide +kernel
theorem dX11_copies_14 : decode cX11_copies 14 = .ok (.iinc 2 1, 3) := by decide +kernel
theorem dX11_copies_17 : decode cX11_copies 17 = .ok (.goto (-15), 3) := by decide +kernel
theorem dX11_copies_20 : decode cX11_copies 20 = .ok (.return_, 1) := by decide +kernel
set_option maxRecDepth 20000 in
theorem ggX11_isGoer_X11_in1 : GoodIn wsX11_isGoer wsX11_in1 := goodIn_r _ [5] (by decide +kernel) (by decide +kernel)
set_option maxRecDepth 20000 in
theorem gX11_isGoer_X11_in1 : GoodIn wsX11_isGoer (va_wsS RX11 57 yX11_in1 wsX11_in1) := goodIn_app (goodIn_of _ (by decide +kernel)) ggX11_isGoer_X11_in1
theorem dX11_isGoer_0 : decode cX11_isGoer 0 = .ok (.iload_n 1, 1) := by decide +kernel
theorem dX11_isGoer_1 : decode cX11_isGoer 1 = .ok (.iconst 0, 1) := by decide +kernel
theorem dX11_isGoer_2 : decode cX11_isGoer 2 = .ok (.aload_n 0, 1) := by decide +kernel
theorem dX11_isGoer_3 : decode cX11_isGoer 3 = .ok (.getfield 9, 3) := by decide +kernel
theorem dX11_isGoer_6 : decode cX11_isGoer 6 = .ok (.bipush 6, 2) := by decide +kernel
theorem dX11_isGoer_8 : decode cX11_isGoer 8 = .ok (.iaload, 1) := by decide +kernel
theorem dX11_isGoer_9 : decode cX11_isGoer 9 = .ok (.iconst 1, 1) := by decide +kernel
theorem dX11_isGoer_10 : decode cX11_isGoer 10 = .ok (.isub, 1) := by decide +kernel
theorem dX11_isGoer_11 : decode cX11_isGoer 11 = .ok (.invokestatic 57, 3) := by decide +kernel
theorem dX11_isGoer_14 : decode cX11_isGoer 14 = .ok (.ireturn, 1) := by decide +kernel
theorem dX11_get_0 : decode cX11_get 0 = .ok (.aload_n 0, 1) := by decide +kernel
theorem dX11_get_1 : decode cX11_get 1 = .ok (.getfield 9, 3) := by decide +kernel
theorem dX11_get_4 : decode cX11_get 4 = .ok (.bipush 19, 2) := by decide +kernel
theorem dX11_get_6 : decode cX11_get 6 = .ok (.iconst 4, 1) := by decide +kernel
theorem dX11_get_7 : decode cX11_get 7 = .ok (.iload_n 1, 1) := by decide +kernel
theorem dX11_get_8 : decode cX11_get 8 = .ok (.imul, 1) := by decide +kernel
theorem dX11_get_9 : decode cX11_get 9 = .ok (.iadd, 1) := by decide +kernel
theorem dX11_get_10 : decode cX11_get 10 = .ok (.iload_n 2, 1) := by decide +kernel
theorem dX11_get_11 : decode cX11_get 11 = .ok (.iadd, 1) := by decide +kernel
theorem dX11_get_12 : decode cX11_get 12 = .ok (.iaload, 1) := by decide +kernel
theorem dX11_get_13 : decode cX11_get 13 = .ok (.ireturn, 1) := by decide +kernel
theorem dX11_puts_0 : decode cX11_puts 0 = .ok (.aload_n 0, 1) := by decide +kernel
theorem dX11_puts_1 : decode cX11_puts 1 = .ok (.getfield 9, 3) := by decide +kernel
theorem dX11_puts_4 : decode cX11_puts 4 = .ok (.bipush 19, 2) := by decide +kernel
theorem dX11_puts_6 : decode cX11_puts 6 = .ok (.iconst 4, 1) := by decide +kernel
theorem dX11_puts_7 : decode cX11_puts 7 = .ok (.iload_n 1, 1) := by decide +kernel
theorem dX11_puts_8 : decode cX11_puts 8 = .ok (.imul, 1) := by decide +kernel
theorem dX11_puts_9 : decode cX11_puts 9 = .ok (.iadd, 1) := by decide +kernel
theorem dX11_puts_10 : decode cX11_puts 10 = .ok (.iload_n 2, 1) := by decide +kernel
theorem dX11_puts_11 : decode cX11_puts 11 = .ok (.iadd, 1) := by decide +kernel
theorem dX11_puts_12 : decode cX11_puts 12 = .ok (.iload_n 3, 1) := by decide +kernel
theorem dX11_puts_13 : decode cX11_puts 13 = .ok (.iastore, 1) := by decide +kernel
theorem dX11_puts_14 : decode cX11_puts 14 = .ok (.return_, 1) := by decide +kernel
set_option maxRecDepth 20000 in
theorem ggX11_isThrough_X11_get : GoodIn wsX11_isThrough wsX11_get := goodIn_r _ [5, 6, 7, 8, 9, 10, 11, 12, 13, 14, 15, 16, 17, 18, 19, 20, 21, 22, 23, 24, 25, 26, 27, 28, 29, 30] (by decide +kernel) (by decide +kernel)
set_option maxRecDepth 20000 in
theorem gX11_isThrough_X11_get : GoodIn wsX11_isThrough (wsV RX11 61 RX11 yX11_get wsX11_get) := goodIn_app (goodIn_of _ (by decide +kernel)) ggX11_isThrough_X11_get
theorem dX11_isThrough_0 : decode cX11_isThrough 0 = .ok (.aload_n 0, 1) := by decide +kernel
theorem dX11_isThrough_1 : decode cX11_isThrough 1 = .ok (.iload_n 1, 1) := by decide +kernel
theorem dX11_isThrough_2 : decode cX11_isThrough 2 = .ok (.iconst 2, 1) := by decide +kernel
theorem dX11_isThrough_3 : decode cX11_isThrough 3 = .ok (.invokevirtual 61, 3) := by decide +kernel
theorem dX11_isThrough_6 : decode cX11_isThrough 6 = .ok (.bipush 12, 2) := by decide +kernel
theorem dX11_isThrough_8 : decode cX11_isThrough 8 = .ok (.if_icmp .ne 7, 3) := by decide +kernel
theorem dX11_isThrough_11 : decode cX11_isThrough 11 = .ok (.iconst 1, 1) := by decide +kernel
theorem dX11_isThrough_12 : decode cX11_isThrough 12 = .ok (.goto 4, 3) := by decide +kernel
theorem dX11_isThrough_15 : decode cX11_isThrough 15 = .ok (.iconst 0, 1) := by decide +kernel
theorem dX11_isThrough_16 : decode cX11_isThrough 16 = .ok (.ireturn, 1) := by decide +kernel
theorem dX11_becomes_0 : decode cX11_becomes 0 = .ok (.aload_n 0, 1) := by decide +kernel
theorem dX11_becomes_1 : decode cX11_becomes 1 = .ok (.getfield 9, 3) := by decide +kernel
theorem dX11_becomes_4 : decode cX11_becomes 4 = .ok (.iload_n 1, 1) := by decide +kernel
theorem dX11_becomes_5 : decode cX11_becomes 5 = .ok (.iaload, 1) := by decide +kernel
theorem dX11_becomes_6 : decode cX11_becomes 6 = .ok (.istore_n 3, 1) := by decide +kernel
theorem dX11_becomes_7 : decode cX11_becomes 7 = .ok (.aload_n 0, 1) := by decide +kernel
theorem dX11_becomes_8 : decode cX11_becomes 8 = .ok (.getfield 9, 3) := by decide +kernel
theorem dX11_becomes_11 : decode cX11_becomes 11 = .ok (.iload_n 1, 1) := by decide +kernel
theorem dX11_becomes_12 : decode cX11_becomes 12 = .ok (.iload_n 2, 1) := by decide +kernel
theorem dX11_becomes_13 : decode cX11_becomes 13 = .ok (.iastore, 1) := by decide +kernel
theorem dX11_becomes_14 : decode cX11_becomes 14 = .ok (.iload_n 3, 1) := by decide +kernel
theorem dX11_becomes_15 : decode cX11_becomes 15 = .ok (.ireturn, 1) := by decide +kernel
theorem dX11_fogNow_0 : decode cX11_fogNow 0 = .ok (.aload_n 0, 1) := by decide +kernel
theorem dX11_fogNow_1 : decode cX11_fogNow 1 = .ok (.getfield 9, 3) := by decide +kernel
theorem dX11_fogNow_4 : decode cX11_fogNow 4 = .ok (.bipush 7, 2) := by decide +kernel
theorem dX11_fogNow_6 : decode cX11_fogNow 6 = .ok (.aload_n 0, 1) := by decide +kernel
theorem dX11_fogNow_7 : decode cX11_fogNow 7 = .ok (.getfield 9, 3) := by decide +kernel
theorem dX11_fogNow_10 : decode cX11_fogNow 10 = .ok (.iconst 0, 1) := by decide +kernel
theorem dX11_fogNow_11 : decode cX11_fogNow 11 = .ok (.iaload, 1) := by decide +kernel
theorem dX11_fogNow_12 : decode cX11_fogNow 12 = .ok (.bipush 6, 2) := by decide +kernel
theorem dX11_fogNow_14 : decode cX11_fogNow 14 = .ok (.irem, 1) := by decide +kernel
theorem dX11_fogNow_15 : decode cX11_fogNow 15 = .ok (.iadd, 1) := by decide +kernel
theorem dX11_fogNow_16 : decode cX11_fogNow 16 = .ok (.iaload, 1) := by decide +kernel
theorem dX11_fogNow_17 : decode cX11_fogNow 17 = .ok (.ireturn, 1) := by decide +kernel
theorem dX11_armsNow_0 : decode cX11_armsNow 0 = .ok (.aload_n 0, 1) := by decide +kernel
theorem dX11_armsNow_1 : decode cX11_armsNow 1 = .ok (.getfield 9, 3) := by decide +kernel
theorem dX11_armsNow_4 : decode cX11_armsNow 4 = .ok (.bipush 13, 2) := by decide +kernel
theorem dX11_armsNow_6 : decode cX11_armsNow 6 = .ok (.aload_n 0, 1) := by decide +kernel
theorem dX11_armsNow_7 : decode cX11_armsNow 7 = .ok (.getfield 9, 3) := by decide +kernel
theorem dX11_armsNow_10 : decode cX11_armsNow 10 = .ok (.iconst 0, 1) := by decide +kernel
theorem dX11_armsNow_11 : decode cX11_armsNow 11 = .ok (.iaload, 1) := by decide +kernel
theorem dX11_armsNow_12 : decode cX11_armsNow 12 = .ok (.bipush 6, 2) := by decide +kernel
theorem dX11_armsNow_14 : decode cX11_armsNow 14 = .ok (.irem, 1) := by decide +kernel
theorem dX11_armsNow_15 : decode cX11_armsNow 15 = .ok (.iadd, 1) := by decide +kernel
theorem dX11_armsNow_16 : decode cX11_armsNow 16 = .ok (.iaload, 1) := by decide +kernel
theorem dX11_armsNow_17 : decode cX11_armsNow 17 = .ok (.ireturn, 1) := by decide +kernel
set_option maxRecDepth 20000 in
theorem ggX11_sightOf_X11_armsNow : GoodIn wsX11_sightOf wsX11_armsNow := goodIn_r _ [6, 1, 15, 16, 17, 18, 19, 20, 21, 22, 23, 24, 25, 26, 27, 28, 29, 30, 31, 32, 33, 34, 35, 36, 37, 38] (by decide +kernel) (by decide +kernel)
set_option maxRecDepth 20000 in
theorem gX11_sightOf_X11_armsNow : GoodIn wsX11_sightOf (wsV RX11 65 RX11 yX11_armsNow wsX11_armsNow) := goodIn_app (goodIn_of _ (by decide +kernel)) ggX11_sightOf_X11_armsNow
set_option maxRecDepth 20000 in
theorem ggX11_sightOf_X11_fogNow : GoodIn wsX11_sightOf wsX11_fogNow := goodIn_r _ [10, 1, 15, 16, 17, 18, 19, 20, 21, 22, 23, 24, 25, 26, 27, 28, 29, 30, 31, 32, 33, 34, 35, 36, 37, 38] (by decide +kernel) (by decide +kernel)
set_option maxRecDepth 20000 in
theorem gX11_sightOf_X11_fogNow : GoodIn wsX11_sightOf (wsV RX11 69 RX11 yX11_fogNow wsX11_fogNow) := goodIn_app (goodIn_of _ (by decide +kernel)) ggX11_sightOf_X11_fogNow
set_option maxRecDepth 20000 in
theorem ggX11_sightOf_X11_get : GoodIn wsX11_sightOf wsX11_get := goodIn_r _ [14, 1, 15, 16, 17, 18, 19, 20, 21, 22, 23, 24, 25, 26, 27, 28, 29, 30, 31, 32, 33, 34, 35, 36, 37, 38] (by decide +kernel) (by decide +kernel)
set_option maxRecDepth 20000 in
theorem gX11_sightOf_X11_get : GoodIn wsX11_sightOf (wsV RX11 61 RX11 yX11_get wsX11_get) := goodIn_app (goodIn_of _ (by decide +kernel)) ggX11_sightOf_X11_get
theorem dX11_sightOf_0 : decode cX11_sightOf 0 = .ok (.bipush 8, 2) := by decide +kernel
theorem dX11_sightOf_2 : decode cX11_sightOf 2 = .ok (.aload_n 0, 1) := by decide +kernel
theorem dX11_sightOf_3 : decode cX11_sightOf 3 = .ok (.invokevirtual 65, 3) := by decide +kernel
theorem dX11_sightOf_6 : decode cX11_sightOf 6 = .ok (.iadd, 1) := by decide +kernel
theorem dX11_sightOf_7 : decode cX11_sightOf 7 = .ok (.aload_n 0, 1) := by decide +kernel
theorem dX11_sightOf_8 : decode cX11_sightOf 8 = .ok (.invokevirtual 69, 3) := by decide +kernel
theorem dX11_sightOf_11 : decode cX11_sightOf 11 = .ok (.isub, 1) := by decide +kernel
theorem dX11_sightOf_12 : decode cX11_sightOf 12 = .ok (.istore_n 2, 1) := by decide +kernel
theorem dX11_sightOf_13 : decode cX11_sightOf 13 = .ok (.aload_n 0, 1) := by decide +kernel
theorem dX11_sightOf_14 : decode cX11_sightOf 14 = .ok (.iload_n 1, 1) := by decide +kernel
theorem dX11_sightOf_15 : decode cX11_sightOf 15 = .ok (.iconst 0, 1) := by decide +kernel
theorem dX11_sightOf_16 : decode cX11_sightOf 16 = .ok (.invokevirtual 61, 3) := by decide +kernel
theorem dX11_sightOf_19 : decode cX11_sightOf 19 = .ok (.tableswitch 72 1 5 #[33, 37, 41, 52, 63], 33) := by decide +kernel
theorem dX11_sightOf_52 : decode cX11_sightOf 52 = .ok (.iload_n 2, 1) := by decide +kernel
theorem dX11_sightOf_53 : decode cX11_sightOf 53 = .ok (.iconst 4, 1) := by decide +kernel
theorem dX11_sightOf_54 : decode cX11_sightOf 54 = .ok (.iadd, 1) := by decide +kernel
theorem dX11_sightOf_55 : decode cX11_sightOf 55 = .ok (.ireturn, 1) := by decide +kernel
theorem dX11_sightOf_56 : decode cX11_sightOf 56 = .ok (.iload_n 2, 1) := by decide +kernel
theorem dX11_sightOf_57 : decode cX11_sightOf 57 = .ok (.iconst 2, 1) := by decide +kernel
theorem dX11_sightOf_58 : decode cX11_sightOf 58 = .ok (.isub, 1) := by decide +kernel
theorem dX11_sightOf_59 : decode cX11_sightOf 59 = .ok (.ireturn, 1) := by decide +kernel
theorem dX11_sightOf_60 : decode cX11_sightOf 60 = .ok (.iload_n 2, 1) := by decide +kernel
theorem dX11_sightOf_61 : decode cX11_sightOf 61 = .ok (.iconst 4, 1) := by decide +kernel
theorem dX11_sightOf_62 : decode cX11_sightOf 62 = .ok (.iadd, 1) := by decide +kernel
theorem dX11_sightOf_63 : decode cX11_sightOf 63 = .ok (.aload_n 0, 1) := by decide +kernel
theorem dX11_sightOf_64 : decode cX11_sightOf 64 = .ok (.invokevirtual 69, 3) := by decide +kernel
theorem dX11_sightOf_67 : decode cX11_sightOf 67 = .ok (.iconst 2, 1) := by decide +kernel
theorem dX11_sightOf_68 : decode cX11_sightOf 68 = .ok (.idiv, 1) := by decide +kernel
theorem dX11_sightOf_69 : decode cX11_sightOf 69 = .ok (.isub, 1) := by decide +kernel
theorem dX11_sightOf_70 : decode cX11_sightOf 70 = .ok (.ireturn, 1) := by decide +kernel
theorem dX11_sightOf_71 : decode cX11_sightOf 71 = .ok (.iload_n 2, 1) := by decide +kernel
theorem dX11_sightOf_72 : decode cX11_sightOf 72 = .ok (.iconst 2, 1) := by decide +kernel
theorem dX11_sightOf_73 : decode cX11_sightOf 73 = .ok (.isub, 1) := by decide +kernel
theorem dX11_sightOf_74 : decode cX11_sightOf 74 = .ok (.aload_n 0, 1) := by decide +kernel
theorem dX11_sightOf_75 : decode cX11_sightOf 75 = .ok (.getfield 9, 3) := by decide +kernel
theorem dX11_sightOf_78 : decode cX11_sightOf 78 = .ok (.iconst 1, 1) := by decide +kernel
theorem dX11_sightOf_79 : decode cX11_sightOf 79 = .ok (.iaload, 1) := by decide +kernel
theorem dX11_sightOf_80 : decode cX11_sightOf 80 = .ok (.iadd, 1) := by decide +kernel
theorem dX11_sightOf_81 : decode cX11_sightOf 81 = .ok (.ireturn, 1) := by decide +kernel
theorem dX11_sightOf_82 : decode cX11_sightOf 82 = .ok (.iconst 2, 1) := by decide +kernel
theorem dX11_sightOf_83 : decode cX11_sightOf 83 = .ok (.aload_n 0, 1) := by decide +kernel
theorem dX11_sightOf_84 : decode cX11_sightOf 84 = .ok (.getfield 9, 3) := by decide +kernel
theorem dX11_sightOf_87 : decode cX11_sightOf 87 = .ok (.iconst 1, 1) := by decide +kernel
theorem dX11_sightOf_88 : decode cX11_sightOf 88 = .ok (.iaload, 1) := by decide +kernel
theorem dX11_sightOf_89 : decode cX11_sightOf 89 = .ok (.imul, 1) := by decide +kernel
theorem dX11_sightOf_90 : decode cX11_sightOf 90 = .ok (.ireturn, 1) := by decide +kernel
theorem dX11_sightOf_91 : decode cX11_sightOf 91 = .ok (.iload_n 2, 1) := by decide +kernel
theorem dX11_sightOf_92 : decode cX11_sightOf 92 = .ok (.ireturn, 1) := by decide +kernel
set_option maxRecDepth 20000 in
theorem ggX11_doesSee_X11_get : GoodIn wsX11_doesSee wsX11_get := goodIn_r _ [5, 6, 19, 20, 21, 22, 23, 24, 25, 26, 27, 28, 29, 30, 31, 32, 33, 34, 35, 36, 37, 38, 39, 40, 41, 42] (by decide +kernel) (by decide +kernel)
set_option maxRecDepth 20000 in
theorem gX11_doesSee_X11_get : GoodIn wsX11_doesSee (wsV RX11 61 RX11 yX11_get wsX11_get) := goodIn_app (goodIn_of _ (by decide +kernel)) ggX11_doesSee_X11_get
set_option maxRecDepth 20000 in
theorem ggX11_doesSee_X11_sightOf : GoodIn wsX11_doesSee wsX11_sightOf := goodIn_r _ [10, 6, 11, 12, 13, 4, 14, 15, 16, 17, 18, 1, 2, 3, 5, 19, 20, 21, 22, 23, 24, 25, 26, 27, 28, 29, 30, 31, 32, 33, 34, 35, 36, 37, 38, 39, 40, 41, 42] (by decide +kernel) (by decide +kernel)
set_option maxRecDepth 20000 in
theorem gX11_doesSee_X11_sightOf : GoodIn wsX11_doesSee (wsV RX11 72 RX11 yX11_sightOf wsX11_sightOf) := goodIn_app (goodIn_of _ (by decide +kernel)) ggX11_doesSee_X11_sightOf
theorem dX11_doesSee_0 : decode cX11_doesSee 0 = .ok (.bipush 12, 2) := by decide +kernel
theorem dX11_doesSee_2 : decode cX11_doesSee 2 = .ok (.aload_n 0, 1) := by decide +kernel
theorem dX11_doesSee_3 : decode cX11_doesSee 3 = .ok (.iload_n 1, 1) := by decide +kernel
theorem dX11_doesSee_4 : decode cX11_doesSee 4 = .ok (.iconst 2, 1) := by decide +kernel
theorem dX11_doesSee_5 : decode cX11_doesSee 5 = .ok (.invokevirtual 61, 3) := by decide +kernel
theorem dX11_doesSee_8 : decode cX11_doesSee 8 = .ok (.isub, 1) := by decide +kernel
theorem dX11_doesSee_9 : decode cX11_doesSee 9 = .ok (.aload_n 0, 1) := by decide +kernel
theorem dX11_doesSee_10 : decode cX11_doesSee 10 = .ok (.iload_n 1, 1) := by decide +kernel
theorem dX11_doesSee_11 : decode cX11_doesSee 11 = .ok (.invokevirtual 72, 3) := by decide +kernel
theorem dX11_doesSee_14 : decode cX11_doesSee 14 = .ok (.if_icmp .gt 7, 3) := by decide +kernel
theorem dX11_doesSee_17 : decode cX11_doesSee 17 = .ok (.iconst 1, 1) := by decide +kernel
theorem dX11_doesSee_18 : decode cX11_doesSee 18 = .ok (.goto 4, 3) := by decide +kernel
theorem dX11_doesSee_21 : decode cX11_doesSee 21 = .ok (.iconst 0, 1) := by decide +kernel
theorem dX11_doesSee_22 : decode cX11_doesSee 22 = .ok (.ireturn, 1) := by decide +kernel
set_option maxRecDepth 20000 in
theorem ggX11_keenOf_X11_get : GoodIn wsX11_keenOf wsX11_get := goodIn_r _ [6, 1, 11, 12, 13, 14, 15, 16, 17, 18, 19, 20, 21, 22, 23, 24, 25, 26, 27, 28, 29, 30, 31, 32, 33, 34] (by decide +kernel) (by decide +kernel)
set_option maxRecDepth 20000 in
theorem gX11_keenOf_X11_get : GoodIn wsX11_keenOf (wsV RX11 61 RX11 yX11_get wsX11_get) := goodIn_app (goodIn_of _ (by decide +kernel)) ggX11_keenOf_X11_get
set_option maxRecDepth 20000 in
theorem ggX11_keenOf_X11_armsNow : GoodIn wsX11_keenOf wsX11_armsNow := goodIn_r _ [10, 1, 11, 12, 13, 14, 15, 16, 17, 18, 19, 20, 21, 22, 23, 24, 25, 26, 27, 28, 29, 30, 31, 32, 33, 34] (by decide +kernel) (by decide +kernel)
set_option maxRecDepth 20000 in
theorem gX11_keenOf_X11_armsNow : GoodIn wsX11_keenOf (wsV RX11 65 RX11 yX11_armsNow wsX11_armsNow) := goodIn_app (goodIn_of _ (by decide +kernel)) ggX11_keenOf_X11_armsNow
theorem dX11_keenOf_0 : decode cX11_keenOf 0 = .ok (.aload_n 0, 1) := by decide +kernel
theorem dX11_keenOf_1 : decode cX11_keenOf 1 = .ok (.iload_n 1, 1) := by decide +kernel
theorem dX11_keenOf_2 : decode cX11_keenOf 2 = .ok (.iconst 0, 1) := by decide +kernel
theorem dX11_keenOf_3 : decode cX11_keenOf 3 = .ok (.invokevirtual 61, 3) := by decide +kernel
theorem dX11_keenOf_6 : decode cX11_keenOf 6 = .ok (.tableswitch 63 1 5 #[34, 41, 44, 51, 54], 34) := by decide +kernel
theorem dX11_keenOf_40 : decode cX11_keenOf 40 = .ok (.iconst 3, 1) := by decide +kernel
theorem dX11_keenOf_41 : decode cX11_keenOf 41 = .ok (.aload_n 0, 1) := by decide +kernel
theorem dX11_keenOf_42 : decode cX11_keenOf 42 = .ok (.invokevirtual 65, 3) := by decide +kernel
theorem dX11_keenOf_45 : decode cX11_keenOf 45 = .ok (.iadd, 1) := by decide +kernel
theorem dX11_keenOf_46 : decode cX11_keenOf 46 = .ok (.ireturn, 1) := by decide +kernel
theorem dX11_keenOf_47 : decode cX11_keenOf 47 = .ok (.bipush 6, 2) := by decide +kernel
theorem dX11_keenOf_49 : decode cX11_keenOf 49 = .ok (.ireturn, 1) := by decide +kernel
theorem dX11_keenOf_50 : decode cX11_keenOf 50 = .ok (.iconst 2, 1) := by decide +kernel
theorem dX11_keenOf_51 : decode cX11_keenOf 51 = .ok (.aload_n 0, 1) := by decide +kernel
theorem dX11_keenOf_52 : decode cX11_keenOf 52 = .ok (.invokevirtual 65, 3) := by decide +kernel
theorem dX11_keenOf_55 : decode cX11_keenOf 55 = .ok (.iadd, 1) := by decide +kernel
theorem dX11_keenOf_56 : decode cX11_keenOf 56 = .ok (.ireturn, 1) := by decide +kernel
theorem dX11_keenOf_57 : decode cX11_keenOf 57 = .ok (.bipush 8, 2) := by decide +kernel
theorem dX11_keenOf_59 : decode cX11_keenOf 59 = .ok (.ireturn, 1) := by decide +kernel
theorem dX11_keenOf_60 : decode cX11_keenOf 60 = .ok (.iconst 3, 1) := by decide +kernel
theorem dX11_keenOf_61 : decode cX11_keenOf 61 = .ok (.aload_n 0, 1) := by decide +kernel
theorem dX11_keenOf_62 : decode cX11_keenOf 62 = .ok (.getfield 9, 3) := by decide +kernel
theorem dX11_keenOf_65 : decode cX11_keenOf 65 = .ok (.iconst 1, 1) := by decide +kernel
theorem dX11_keenOf_66 : decode cX11_keenOf 66 = .ok (.iaload, 1) := by decide +kernel
theorem dX11_keenOf_67 : decode cX11_keenOf 67 = .ok (.iadd, 1) := by decide +kernel
theorem dX11_keenOf_68 : decode cX11_keenOf 68 = .ok (.ireturn, 1) := by decide +kernel
theorem dX11_keenOf_69 : decode cX11_keenOf 69 = .ok (.iconst 3, 1) := by decide +kernel
theorem dX11_keenOf_70 : decode cX11_keenOf 70 = .ok (.ireturn, 1) := by decide +kernel
set_option maxRecDepth 20000 in
theorem ggX11_fearsOf_X11_get : GoodIn wsX11_fearsOf wsX11_get := goodIn_r _ [5, 6, 11, 12, 13, 14, 15, 16, 17, 18, 19, 20, 21, 22, 23, 24, 25, 26, 27, 28, 29, 30, 31, 32, 33, 34] (by decide +kernel) (by decide +kernel)
set_option maxRecDepth 20000 in
theorem gX11_fearsOf_X11_get : GoodIn wsX11_fearsOf (wsV RX11 61 RX11 yX11_get wsX11_get) := goodIn_app (goodIn_of _ (by decide +kernel)) ggX11_fearsOf_X11_get
set_option maxRecDepth 20000 in
theorem ggX11_fearsOf_X11_fogNow : GoodIn wsX11_fearsOf wsX11_fogNow := goodIn_r _ [10, 6, 11, 12, 13, 14, 15, 16, 17, 18, 19, 20, 21, 22, 23, 24, 25, 26, 27, 28, 29, 30, 31, 32, 33, 34] (by decide +kernel) (by decide +kernel)
set_option maxRecDepth 20000 in
theorem gX11_fearsOf_X11_fogNow : GoodIn wsX11_fearsOf (wsV RX11 69 RX11 yX11_fogNow wsX11_fogNow) := goodIn_app (goodIn_of _ (by decide +kernel)) ggX11_fearsOf_X11_fogNow
theorem dX11_fearsOf_0 : decode cX11_fearsOf 0 = .ok (.aload_n 0, 1) := by decide +kernel
theorem dX11_fearsOf_1 : decode cX11_fearsOf 1 = .ok (.iload_n 1, 1) := by decide +kernel
theorem dX11_fearsOf_2 : decode cX11_fearsOf 2 = .ok (.iconst 0, 1) := by decide +kernel
theorem dX11_fearsOf_3 : decode cX11_fearsOf 3 = .ok (.invokevirtual 61, 3) := by decide +kernel
theorem dX11_fearsOf_6 : decode cX11_fearsOf 6 = .ok (.tableswitch 50 1 5 #[34, 36, 38, 45, 48], 34) := by decide +kernel
theorem dX11_fearsOf_40 : decode cX11_fearsOf 40 = .ok (.iconst (-1), 1) := by decide +kernel
theorem dX11_fearsOf_41 : decode cX11_fearsOf 41 = .ok (.ireturn, 1) := by decide +kernel
theorem dX11_fearsOf_42 : decode cX11_fearsOf 42 = .ok (.iconst 3, 1) := by decide +kernel
theorem dX11_fearsOf_43 : decode cX11_fearsOf 43 = .ok (.ireturn, 1) := by decide +kernel
theorem dX11_fearsOf_44 : decode cX11_fearsOf 44 = .ok (.aload_n 0, 1) := by decide +kernel
theorem dX11_fearsOf_45 : decode cX11_fearsOf 45 = .ok (.invokevirtual 69, 3) := by decide +kernel
theorem dX11_fearsOf_48 : decode cX11_fearsOf 48 = .ok (.iconst 1, 1) := by decide +kernel
theorem dX11_fearsOf_49 : decode cX11_fearsOf 49 = .ok (.isub, 1) := by decide +kernel
theorem dX11_fearsOf_50 : decode cX11_fearsOf 50 = .ok (.ireturn, 1) := by decide +kernel
theorem dX11_fearsOf_51 : decode cX11_fearsOf 51 = .ok (.bipush 6, 2) := by decide +kernel
theorem dX11_fearsOf_53 : decode cX11_fearsOf 53 = .ok (.ireturn, 1) := by decide +kernel
theorem dX11_fearsOf_54 : decode cX11_fearsOf 54 = .ok (.iconst 5, 1) := by decide +kernel
theorem dX11_fearsOf_55 : decode cX11_fearsOf 55 = .ok (.ireturn, 1) := by decide +kernel
theorem dX11_fearsOf_56 : decode cX11_fearsOf 56 = .ok (.iconst 2, 1) := by decide +kernel
theorem dX11_fearsOf_57 : decode cX11_fearsOf 57 = .ok (.ireturn, 1) := by decide +kernel
set_option maxRecDepth 20000 in
theorem ggX11_paceOf_X11_get : GoodIn wsX11_paceOf wsX11_get := goodIn_r _ [6, 1, 23, 24, 25, 26, 27, 28, 29, 30, 31, 32, 33, 34, 35, 36, 37, 38, 39, 40, 41, 42, 43, 44, 45, 46] (by decide +kernel) (by decide +kernel)
set_option maxRecDepth 20000 in
theorem gX11_paceOf_X11_get : GoodIn wsX11_paceOf (wsV RX11 61 RX11 yX11_get wsX11_get) := goodIn_app (goodIn_of _ (by decide +kernel)) ggX11_paceOf_X11_get
set_option maxRecDepth 20000 in
theorem ggX11_paceOf_X11_doesSee : GoodIn wsX11_paceOf wsX11_doesSee := goodIn_r _ [10, 2, 3, 4, 5, 6, 1, 11, 12, 13, 14, 15, 16, 17, 18, 19, 20, 21, 22, 23, 24, 25, 26, 27, 28, 29, 30, 31, 32, 33, 34, 35, 36, 37, 38, 39, 40, 41, 42, 43, 44, 45, 46] (by decide +kernel) (by decide +kernel)
set_option maxRecDepth 20000 in
theorem gX11_paceOf_X11_doesSee : GoodIn wsX11_paceOf (wsV RX11 76 RX11 yX11_doesSee wsX11_doesSee) := goodIn_app (goodIn_of _ (by decide +kernel)) ggX11_paceOf_X11_doesSee
theorem dX11_paceOf_0 : decode cX11_paceOf 0 = .ok (.aload_n 0, 1) := by decide +kernel
theorem dX11_paceOf_1 : decode cX11_paceOf 1 = .ok (.iload_n 1, 1) := by decide +kernel
theorem dX11_paceOf_2 : decode cX11_paceOf 2 = .ok (.iconst 0, 1) := by decide +kernel
theorem dX11_paceOf_3 : decode cX11_paceOf 3 = .ok (.invokevirtual 61, 3) := by decide +kernel
theorem dX11_paceOf_6 : decode cX11_paceOf 6 = .ok (.tableswitch 69 1 5 #[34, 69, 36, 38, 55], 34) := by decide +kernel
theorem dX11_paceOf_40 : decode cX11_paceOf 40 = .ok (.iconst 3, 1) := by decide +kernel
theorem dX11_paceOf_41 : decode cX11_paceOf 41 = .ok (.ireturn, 1) := by decide +kernel
theorem dX11_paceOf_42 : decode cX11_paceOf 42 = .ok (.iconst 2, 1) := by decide +kernel
theorem dX11_paceOf_43 : decode cX11_paceOf 43 = .ok (.ireturn, 1) := by decide +kernel
theorem dX11_paceOf_44 : decode cX11_paceOf 44 = .ok (.aload_n 0, 1) := by decide +kernel
theorem dX11_paceOf_45 : decode cX11_paceOf 45 = .ok (.getfield 9, 3) := by decide +kernel
theorem dX11_paceOf_48 : decode cX11_paceOf 48 = .ok (.iconst 0, 1) := by decide +kernel
theorem dX11_paceOf_49 : decode cX11_paceOf 49 = .ok (.iaload, 1) := by decide +kernel
theorem dX11_paceOf_50 : decode cX11_paceOf 50 = .ok (.iconst 2, 1) := by decide +kernel
theorem dX11_paceOf_51 : decode cX11_paceOf 51 = .ok (.irem, 1) := by decide +kernel
theorem dX11_paceOf_52 : decode cX11_paceOf 52 = .ok (.ifCond .ne 7, 3) := by decide +kernel
theorem dX11_paceOf_55 : decode cX11_paceOf 55 = .ok (.iconst 1, 1) := by decide +kernel
theorem dX11_paceOf_56 : decode cX11_paceOf 56 = .ok (.goto 4, 3) := by decide +kernel
theorem dX11_paceOf_59 : decode cX11_paceOf 59 = .ok (.iconst 0, 1) := by decide +kernel
theorem dX11_paceOf_60 : decode cX11_paceOf 60 = .ok (.ireturn, 1) := by decide +kernel
theorem dX11_paceOf_61 : decode cX11_paceOf 61 = .ok (.aload_n 0, 1) := by decide +kernel
theorem dX11_paceOf_62 : decode cX11_paceOf 62 = .ok (.iload_n 1, 1) := by decide +kernel
theorem dX11_paceOf_63 : decode cX11_paceOf 63 = .ok (.invokevirtual 76, 3) := by decide +kernel
theorem dX11_paceOf_66 : decode cX11_paceOf 66 = .ok (.ifCond .eq 7, 3) := by decide +kernel
theorem dX11_paceOf_69 : decode cX11_paceOf 69 = .ok (.iconst 2, 1) := by decide +kernel
theorem dX11_paceOf_70 : decode cX11_paceOf 70 = .ok (.goto 4, 3) := by decide +kernel
theorem dX11_paceOf_73 : decode cX11_paceOf 73 = .ok (.iconst 1, 1) := by decide +kernel
theorem dX11_paceOf_74 : decode cX11_paceOf 74 = .ok (.ireturn, 1) := by decide +kernel
theorem dX11_paceOf_75 : decode cX11_paceOf 75 = .ok (.iconst 1, 1) := by decide +kernel
theorem dX11_paceOf_76 : decode cX11_paceOf 76 = .ok (.ireturn, 1) := by decide +kernel
set_option maxRecDepth 20000 in
theorem ggX11_goesOn_X11_paceOf : GoodIn wsX11_goesOn wsX11_paceOf := goodIn_r _ [7, 2, 8, 9, 10, 6, 11, 12, 13, 14, 15, 16, 17, 18, 19, 20, 21, 22, 23, 24, 25, 26, 27, 43, 44, 45, 46, 47, 48, 49, 50, 51, 52, 53, 54, 55, 56, 57, 58, 59, 60, 61, 62, 63, 64, 65, 66] (by decide +kernel) (by decide +kernel)
set_option maxRecDepth 20000 in
theorem gX11_goesOn_X11_paceOf : GoodIn wsX11_goesOn (wsV RX11 80 RX11 yX11_paceOf wsX11_paceOf) := goodIn_app (goodIn_of _ (by decide +kernel)) ggX11_goesOn_X11_paceOf
set_option maxRecDepth 20000 in
theorem ggX11_goesOn_X11_doesSee : GoodIn wsX11_goesOn wsX11_doesSee := goodIn_r _ [15, 8, 9, 10, 6, 11, 2, 16, 17, 18, 19, 20, 21, 22, 23, 24, 25, 26, 27, 43, 44, 45, 46, 47, 48, 49, 50, 51, 52, 53, 54, 55, 56, 57, 58, 59, 60, 61, 62, 63, 64, 65, 66] (by decide +kernel) (by decide +kernel)
set_option maxRecDepth 20000 in
theorem gX11_goesOn_X11_doesSee : GoodIn wsX11_goesOn (wsV RX11 76 RX11 yX11_doesSee wsX11_doesSee) := goodIn_app (goodIn_of _ (by decide +kernel)) ggX11_goesOn_X11_doesSee
set_option maxRecDepth 20000 in
theorem ggX11_goesOn_X11_get : GoodIn wsX11_goesOn wsX11_get := goodIn_r _ [11, 2, 43, 44, 45, 46, 47, 48, 49, 50, 51, 52, 53, 54, 55, 56, 57, 58, 59, 60, 61, 62, 63, 64, 65, 66] (by decide +kernel) (by decide +kernel)
set_option maxRecDepth 20000 in
theorem gX11_goesOn_X11_get : GoodIn wsX11_goesOn (wsV RX11 61 RX11 yX11_get wsX11_get) := goodIn_app (goodIn_of _ (by decide +kernel)) ggX11_goesOn_X11_get
set_option maxRecDepth 20000 in
theorem ggX11_goesOn_X11_keenOf : GoodIn wsX11_goesOn wsX11_keenOf := goodIn_r _ [31, 2, 8, 9, 10, 6, 11, 20, 21, 22, 23, 43, 44, 45, 46, 47, 48, 49, 50, 51, 52, 53, 54, 55, 56, 57, 58, 59, 60, 61, 62, 63, 64, 65, 66] (by decide +kernel) (by decide +kernel)
set_option maxRecDepth 20000 in
theorem gX11_goesOn_X11_keenOf : GoodIn wsX11_goesOn (wsV RX11 83 RX11 yX11_keenOf wsX11_keenOf) := goodIn_app (goodIn_of _ (by decide +kernel)) ggX11_goesOn_X11_keenOf
set_option maxRecDepth 20000 in
theorem ggX11_goesOn_X11_fearsOf : GoodIn wsX11_goesOn wsX11_fearsOf := goodIn_r _ [35, 8, 9, 10, 6, 11, 2, 24, 25, 26, 27, 43, 44, 45, 46, 47, 48, 49, 50, 51, 52, 53, 54, 55, 56, 57, 58, 59, 60, 61, 62, 63, 64, 65, 66] (by decide +kernel) (by decide +kernel)
set_option maxRecDepth 20000 in
theorem gX11_goesOn_X11_fearsOf : GoodIn wsX11_goesOn (wsV RX11 86 RX11 yX11_fearsOf wsX11_fearsOf) := goodIn_app (goodIn_of _ (by decide +kernel)) ggX11_goesOn_X11_fearsOf
set_option maxRecDepth 20000 in
theorem ggX11_goesOn_X11_held : GoodIn wsX11_goesOn wsX11_held := goodIn_r _ [38] (by decide +kernel) (by decide +kernel)
set_option maxRecDepth 20000 in
theorem gX11_goesOn_X11_held : GoodIn wsX11_goesOn (va_wsS RX11 89 yX11_held wsX11_held) := goodIn_app (goodIn_of _ (by decide +kernel)) ggX11_goesOn_X11_held
set_option maxRecDepth 20000 in
theorem ggX11_goesOn_X11_puts : GoodIn wsX11_goesOn wsX11_puts := goodIn_r _ [42, 2, 43, 44, 45, 46, 47, 48, 49, 50, 51, 52, 53, 54, 55, 56, 57, 58, 59, 60, 61, 62, 63, 64, 65, 66] (by decide +kernel) (by decide +kernel)
set_option maxRecDepth 20000 in
theorem gX11_goesOn_X11_puts : GoodIn wsX11_goesOn (wsV RX11 92 RX11 yX11_puts wsX11_puts) := goodIn_app (goodIn_of _ (by decide +kernel)) ggX11_goesOn_X11_puts
theorem dX11_goesOn_0 : decode cX11_goesOn 0 = .ok (.aload_n 0, 1) := by decide +kernel
theorem dX11_goesOn_1 : decode cX11_goesOn 1 = .ok (.iload_n 1, 1) := by decide +kernel
theorem dX11_goesOn_2 : decode cX11_goesOn 2 = .ok (.invokevirtual 80, 3) := by decide +kernel
theorem dX11_goesOn_5 : decode cX11_goesOn 5 = .ok (.istore_n 2, 1) := by decide +kernel
theorem dX11_goesOn_6 : decode cX11_goesOn 6 = .ok (.aload_n 0, 1) := by decide +kernel
theorem dX11_goesOn_7 : decode cX11_goesOn 7 = .ok (.iload_n 1, 1) := by decide +kernel
theorem dX11_goesOn_8 : decode cX11_goesOn 8 = .ok (.invokevirtual 76, 3) := by decide +kernel
theorem dX11_goesOn_11 : decode cX11_goesOn 11 = .ok (.istore_n 3, 1) := by decide +kernel
theorem dX11_goesOn_12 : decode cX11_goesOn 12 = .ok (.iload_n 3, 1) := by decide +kernel
theorem dX11_goesOn_13 : decode cX11_goesOn 13 = .ok (.ifCond .eq 18, 3) := by decide +kernel
theorem dX11_goesOn_16 : decode cX11_goesOn 16 = .ok (.aload_n 0, 1) := by decide +kernel
theorem dX11_goesOn_17 : decode cX11_goesOn 17 = .ok (.iload_n 1, 1) := by decide +kernel
theorem dX11_goesOn_18 : decode cX11_goesOn 18 = .ok (.iconst 1, 1) := by decide +kernel
theorem dX11_goesOn_19 : decode cX11_goesOn 19 = .ok (.invokevirtual 61, 3) := by decide +kernel
theorem dX11_goesOn_22 : decode cX11_goesOn 22 = .ok (.aload_n 0, 1) := by decide +kernel
theorem dX11_goesOn_23 : decode cX11_goesOn 23 = .ok (.iload_n 1, 1) := by decide +kernel
theorem dX11_goesOn_24 : decode cX11_goesOn 24 = .ok (.invokevirtual 83, 3) := by decide +kernel
theorem dX11_goesOn_27 : decode cX11_goesOn 27 = .ok (.iadd, 1) := by decide +kernel
theorem dX11_goesOn_28 : decode cX11_goesOn 28 = .ok (.goto 15, 3) := by decide +kernel
theorem dX11_goesOn_31 : decode cX11_goesOn 31 = .ok (.aload_n 0, 1) := by decide +kernel
theorem dX11_goesOn_32 : decode cX11_goesOn 32 = .ok (.iload_n 1, 1) := by decide +kernel
theorem dX11_goesOn_33 : decode cX11_goesOn 33 = .ok (.iconst 1, 1) := by decide +kernel
theorem dX11_goesOn_34 : decode cX11_goesOn 34 = .ok (.invokevirtual 61, 3) := by decide +kernel
theorem dX11_goesOn_37 : decode cX11_goesOn 37 = .ok (.aload_n 0, 1) := by decide +kernel
theorem dX11_goesOn_38 : decode cX11_goesOn 38 = .ok (.iload_n 1, 1) := by decide +kernel
theorem dX11_goesOn_39 : decode cX11_goesOn 39 = .ok (.invokevirtual 86, 3) := by decide +kernel
theorem dX11_goesOn_42 : decode cX11_goesOn 42 = .ok (.isub, 1) := by decide +kernel
theorem dX11_goesOn_43 : decode cX11_goesOn 43 = .ok (.bipush 99, 2) := by decide +kernel
theorem dX11_goesOn_45 : decode cX11_goesOn 45 = .ok (.invokestatic 89, 3) := by decide +kernel
theorem dX11_goesOn_48 : decode cX11_goesOn 48 = .ok (.istore 4, 2) := by decide +kernel
theorem dX11_goesOn_50 : decode cX11_goesOn 50 = .ok (.aload_n 0, 1) := by decide +kernel
theorem dX11_goesOn_51 : decode cX11_goesOn 51 = .ok (.iload_n 1, 1) := by decide +kernel
theorem dX11_goesOn_52 : decode cX11_goesOn 52 = .ok (.iconst 1, 1) := by decide +kernel
theorem dX11_goesOn_53 : decode cX11_goesOn 53 = .ok (.iload 4, 2) := by decide +kernel
theorem dX11_goesOn_55 : decode cX11_goesOn 55 = .ok (.invokevirtual 92, 3) := by decide +kernel
theorem dX11_goesOn_58 : decode cX11_goesOn 58 = .ok (.aload_n 0, 1) := by decide +kernel
theorem dX11_goesOn_59 : decode cX11_goesOn 59 = .ok (.iload_n 1, 1) := by decide +kernel
theorem dX11_goesOn_60 : decode cX11_goesOn 60 = .ok (.iconst 3, 1) := by decide +kernel
theorem dX11_goesOn_61 : decode cX11_goesOn 61 = .ok (.aload_n 0, 1) := by decide +kernel
theorem dX11_goesOn_62 : decode cX11_goesOn 62 = .ok (.iload_n 1, 1) := by decide +kernel
theorem dX11_goesOn_63 : decode cX11_goesOn 63 = .ok (.iconst 3, 1) := by decide +kernel
theorem dX11_goesOn_64 : decode cX11_goesOn 64 = .ok (.invokevirtual 61, 3) := by decide +kernel
theorem dX11_goesOn_67 : decode cX11_goesOn 67 = .ok (.iload_n 3, 1) := by decide +kernel
theorem dX11_goesOn_68 : decode cX11_goesOn 68 = .ok (.ifCond .eq 7, 3) := by decide +kernel
theorem dX11_goesOn_71 : decode cX11_goesOn 71 = .ok (.iconst 1, 1) := by decide +kernel
theorem dX11_goesOn_72 : decode cX11_goesOn 72 = .ok (.goto 4, 3) := by decide +kernel
theorem dX11_goesOn_75 : decode cX11_goesOn 75 = .ok (.iconst 0, 1) := by decide +kernel
theorem dX11_goesOn_76 : decode cX11_goesOn 76 = .ok (.iadd, 1) := by decide +kernel
theorem dX11_goesOn_77 : decode cX11_goesOn 77 = .ok (.sipush 9999, 3) := by decide +kernel
theorem dX11_goesOn_80 : decode cX11_goesOn 80 = .ok (.invokestatic 89, 3) := by decide +kernel
theorem dX11_goesOn_83 : decode cX11_goesOn 83 = .ok (.invokevirtual 92, 3) := by decide +kernel
theorem dX11_goesOn_86 : decode cX11_goesOn 86 = .ok (.aload_n 0, 1) := by decide +kernel
theorem dX11_goesOn_87 : decode cX11_goesOn 87 = .ok (.getfield 22, 3) := by decide +kernel
theorem dX11_goesOn_90 : decode cX11_goesOn 90 = .ok (.iload_n 1, 1) := by decide +kernel
theorem dX11_goesOn_91 : decode cX11_goesOn 91 = .ok (.iload 4, 2) := by decide +kernel
theorem dX11_goesOn_93 : decode cX11_goesOn 93 = .ok (.aload_n 0, 1) := by decide +kernel
theorem dX11_goesOn_94 : decode cX11_goesOn 94 = .ok (.getfield 9, 3) := by decide +kernel
theorem dX11_goesOn_97 : decode cX11_goesOn 97 = .ok (.iconst 2, 1) := by decide +kernel
theorem dX11_goesOn_98 : decode cX11_goesOn 98 = .ok (.iaload, 1) := by decide +kernel
theorem dX11_goesOn_99 : decode cX11_goesOn 99 = .ok (.if_icmp .ge 7, 3) := by decide +kernel
theorem dX11_goesOn_102 : decode cX11_goesOn 102 = .ok (.iconst 2, 1) := by decide +kernel
theorem dX11_goesOn_103 : decode cX11_goesOn 103 = .ok (.goto 19, 3) := by decide +kernel
theorem dX11_goesOn_106 : decode cX11_goesOn 106 = .ok (.iload 4, 2) := by decide +kernel
theorem dX11_goesOn_108 : decode cX11_goesOn 108 = .ok (.aload_n 0, 1) := by decide +kernel
theorem dX11_goesOn_109 : decode cX11_goesOn 109 = .ok (.getfield 9, 3) := by decide +kernel
theorem dX11_goesOn_112 : decode cX11_goesOn 112 = .ok (.iconst 3, 1) := by decide +kernel
theorem dX11_goesOn_113 : decode cX11_goesOn 113 = .ok (.iaload, 1) := by decide +kernel
theorem dX11_goesOn_114 : decode cX11_goesOn 114 = .ok (.if_icmp .le 7, 3) := by decide +kernel
theorem dX11_goesOn_117 : decode cX11_goesOn 117 = .ok (.iconst 1, 1) := by decide +kernel
theorem dX11_goesOn_118 : decode cX11_goesOn 118 = .ok (.goto 4, 3) := by decide +kernel
theorem dX11_goesOn_121 : decode cX11_goesOn 121 = .ok (.iconst 0, 1) := by decide +kernel
theorem dX11_goesOn_122 : decode cX11_goesOn 122 = .ok (.iastore, 1) := by decide +kernel
theorem dX11_goesOn_123 : decode cX11_goesOn 123 = .ok (.aload_n 0, 1) := by decide +kernel
theorem dX11_goesOn_124 : decode cX11_goesOn 124 = .ok (.iload_n 1, 1) := by decide +kernel
theorem dX11_goesOn_125 : decode cX11_goesOn 125 = .ok (.iconst 2, 1) := by decide +kernel
theorem dX11_goesOn_126 : decode cX11_goesOn 126 = .ok (.invokevirtual 61, 3) := by decide +kernel
theorem dX11_goesOn_129 : decode cX11_goesOn 129 = .ok (.aload_n 0, 1) := by decide +kernel
theorem dX11_goesOn_130 : decode cX11_goesOn 130 = .ok (.getfield 22, 3) := by decide +kernel
theorem dX11_goesOn_133 : decode cX11_goesOn 133 = .ok (.iload_n 1, 1) := by decide +kernel
theorem dX11_goesOn_134 : decode cX11_goesOn 134 = .ok (.iaload, 1) := by decide +kernel
theorem dX11_goesOn_135 : decode cX11_goesOn 135 = .ok (.iconst 2, 1) := by decide +kernel
theorem dX11_goesOn_136 : decode cX11_goesOn 136 = .ok (.if_icmp .ne 7, 3) := by decide +kernel
theorem dX11_goesOn_139 : decode cX11_goesOn 139 = .ok (.iconst (-1), 1) := by decide +kernel
theorem dX11_goesOn_140 : decode cX11_goesOn 140 = .ok (.goto 18, 3) := by decide +kernel
theorem dX11_goesOn_143 : decode cX11_goesOn 143 = .ok (.aload_n 0, 1) := by decide +kernel
theorem dX11_goesOn_144 : decode cX11_goesOn 144 = .ok (.getfield 22, 3) := by decide +kernel
theorem dX11_goesOn_147 : decode cX11_goesOn 147 = .ok (.iload_n 1, 1) := by decide +kernel
theorem dX11_goesOn_148 : decode cX11_goesOn 148 = .ok (.iaload, 1) := by decide +kernel
theorem dX11_goesOn_149 : decode cX11_goesOn 149 = .ok (.iconst 1, 1) := by decide +kernel
theorem dX11_goesOn_150 : decode cX11_goesOn 150 = .ok (.if_icmp .ne 7, 3) := by decide +kernel
theorem dX11_goesOn_153 : decode cX11_goesOn 153 = .ok (.iconst 0, 1) := by decide +kernel
theorem dX11_goesOn_154 : decode cX11_goesOn 154 = .ok (.goto 4, 3) := by decide +kernel
theorem dX11_goesOn_157 : decode cX11_goesOn 157 = .ok (.iload_n 2, 1) := by decide +kernel
theorem dX11_goesOn_158 : decode cX11_goesOn 158 = .ok (.iadd, 1) := by decide +kernel
theorem dX11_goesOn_159 : decode cX11_goesOn 159 = .ok (.istore 5, 2) := by decide +kernel
theorem dX11_goesOn_161 : decode cX11_goesOn 161 = .ok (.aload_n 0, 1) := by decide +kernel
theorem dX11_goesOn_162 : decode cX11_goesOn 162 = .ok (.iload_n 1, 1) := by decide +kernel
theorem dX11_goesOn_163 : decode cX11_goesOn 163 = .ok (.iconst 2, 1) := by decide +kernel
theorem dX11_goesOn_164 : decode cX11_goesOn 164 = .ok (.iload 5, 2) := by decide +kernel
theorem dX11_goesOn_166 : decode cX11_goesOn 166 = .ok (.bipush 12, 2) := by decide +kernel
theorem dX11_goesOn_168 : decode cX11_goesOn 168 = .ok (.invokestatic 89, 3) := by decide +kernel
theorem dX11_goesOn_171 : decode cX11_goesOn 171 = .ok (.invokevirtual 92, 3) := by decide +kernel
theorem dX11_goesOn_174 : decode cX11_goesOn 174 = .ok (.return_, 1) := by decide +kernel
set_option maxRecDepth 20000 in
theorem ggX11_step1_X11_isThrough : GoodIn wsX11_step1 wsX11_isThrough := goodIn_r _ [7, 8, 9, 10, 6, 11, 1, 51, 52, 53, 54, 55, 56, 57, 58, 59, 60, 61, 62, 63, 64, 65, 66, 67, 68, 69, 70, 71, 72, 73, 74] (by decide +kernel) (by decide +kernel)
set_option maxRecDepth 20000 in
theorem gX11_step1_X11_isThrough : GoodIn wsX11_step1 (wsV RX11 96 RX11 yX11_isThrough wsX11_isThrough) := goodIn_app (goodIn_of _ (by decide +kernel)) ggX11_step1_X11_isThrough
set_option maxRecDepth 20000 in
theorem ggX11_step1_X11_goesOn : GoodIn wsX11_step1 wsX11_goesOn := goodIn_r _ [15, 2, 1, 16, 17, 18, 6, 19, 8, 9, 10, 11, 20, 21, 22, 23, 24, 25, 26, 27, 28, 29, 30, 31, 32, 33, 34, 35, 36, 37, 38, 39, 40, 41, 42, 43, 44, 45, 46, 47, 48, 49, 50, 51, 52, 53, 54, 55, 56, 57, 58, 59, 60, 61, 62, 63, 64, 65, 66, 67, 68, 69, 70, 71, 72, 73, 74] (by decide +kernel) (by decide +kernel)
set_option maxRecDepth 20000 in
theorem gX11_step1_X11_goesOn : GoodIn wsX11_step1 (wsV RX11 99 RX11 yX11_goesOn wsX11_goesOn) := goodIn_app (goodIn_of _ (by decide +kernel)) ggX11_step1_X11_goesOn
theorem dX11_step1_0 : decode cX11_step1 0 = .ok (.iconst 0, 1) := by decide +kernel
theorem dX11_step1_1 : decode cX11_step1 1 = .ok (.istore_n 1, 1) := by decide +kernel
theorem dX11_step1_2 : decode cX11_step1 2 = .ok (.iload_n 1, 1) := by decide +kernel
theorem dX11_step1_3 : decode cX11_step1 3 = .ok (.aload_n 0, 1) := by decide +kernel
theorem dX11_step1_4 : decode cX11_step1 4 = .ok (.getfield 9, 3) := by decide +kernel
theorem dX11_step1_7 : decode cX11_step1 7 = .ok (.bipush 6, 2) := by decide +kernel
theorem dX11_step1_9 : decode cX11_step1 9 = .ok (.iaload, 1) := by decide +kernel
theorem dX11_step1_10 : decode cX11_step1 10 = .ok (.if_icmp .ge 29, 3) := by decide +kernel
theorem dX11_step1_13 : decode cX11_step1 13 = .ok (.aload_n 0, 1) := by decide +kernel
theorem dX11_step1_14 : decode cX11_step1 14 = .ok (.getfield 22, 3) := by decide +kernel
theorem dX11_step1_17 : decode cX11_step1 17 = .ok (.iload_n 1, 1) := by decide +kernel
theorem dX11_step1_18 : decode cX11_step1 18 = .ok (.iconst 0, 1) := by decide +kernel
theorem dX11_step1_19 : decode cX11_step1 19 = .ok (.iastore, 1) := by decide +kernel
theorem dX11_step1_20 : decode cX11_step1 20 = .ok (.aload_n 0, 1) := by decide +kernel
theorem dX11_step1_21 : decode cX11_step1 21 = .ok (.iload_n 1, 1) := by decide +kernel
theorem dX11_step1_22 : decode cX11_step1 22 = .ok (.invokevirtual 96, 3) := by decide +kernel
theorem dX11_step1_25 : decode cX11_step1 25 = .ok (.ifCond .ne 8, 3) := by decide +kernel
theorem dX11_step1_28 : decode cX11_step1 28 = .ok (.aload_n 0, 1) := by decide +kernel
theorem dX11_step1_29 : decode cX11_step1 29 = .ok (.iload_n 1, 1) := by decide +kernel
theorem dX11_step1_30 : decode cX11_step1 30 = .ok (.invokevirtual 99, 3) := by decide +kernel
theorem dX11_step1_33 : decode cX11_step1 33 = .ok (.iinc 1 1, 3) := by decide +kernel
theorem dX11_step1_36 : decode cX11_step1 36 = .ok (.goto (-34), 3) := by decide +kernel
theorem dX11_step1_39 : decode cX11_step1 39 = .ok (.aload_n 0, 1) := by decide +kernel
theorem dX11_step1_40 : decode cX11_step1 40 = .ok (.getfield 9, 3) := by decide +kernel
theorem dX11_step1_43 : decode cX11_step1 43 = .ok (.iconst 0, 1) := by decide +kernel
theorem dX11_step1_44 : decode cX11_step1 44 = .ok (.dup2, 1) := by decide +kernel
theorem dX11_step1_45 : decode cX11_step1 45 = .ok (.iaload, 1) := by decide +kernel
theorem dX11_step1_46 : decode cX11_step1 46 = .ok (.iconst 1, 1) := by decide +kernel
theorem dX11_step1_47 : decode cX11_step1 47 = .ok (.iadd, 1) := by decide +kernel
theorem dX11_step1_48 : decode cX11_step1 48 = .ok (.iastore, 1) := by decide +kernel
theorem dX11_step1_49 : decode cX11_step1 49 = .ok (.return_, 1) := by decide +kernel
set_option maxRecDepth 20000 in
theorem ggX11_goes_X11_step1 : GoodIn wsX11_goes wsX11_step1 := goodIn_r _ [5, 6, 7, 8, 9, 10, 4, 11, 12, 13, 14, 15, 16, 17, 18, 19, 20, 21, 22, 23, 24, 25, 26, 27, 28, 29, 30, 31, 32, 33, 34, 35, 36, 37, 38, 39, 40, 41, 42, 43, 44, 45, 46, 47, 48, 49, 50, 51, 52, 53, 54, 55, 56, 57, 58, 59, 60, 61, 62, 63, 64, 65, 66, 67, 68, 69, 70, 71, 72, 73, 74, 75, 76, 77, 78] (by decide +kernel) (by decide +kernel)
set_option maxRecDepth 20000 in
theorem gX11_goes_X11_step1 : GoodIn wsX11_goes (wsV RX11 103 RX11 yX11_step1 wsX11_step1) := goodIn_app (goodIn_of _ (by decide +kernel)) ggX11_goes_X11_step1
theorem dX11_goes_0 : decode cX11_goes 0 = .ok (.iconst 0, 1) := by decide +kernel
theorem dX11_goes_1 : decode cX11_goes 1 = .ok (.istore_n 2, 1) := by decide +kernel
theorem dX11_goes_2 : decode cX11_goes 2 = .ok (.iload_n 2, 1) := by decide +kernel
theorem dX11_goes_3 : decode cX11_goes 3 = .ok (.iload_n 1, 1) := by decide +kernel
theorem dX11_goes_4 : decode cX11_goes 4 = .ok (.if_icmp .ge 13, 3) := by decide +kernel
theorem dX11_goes_7 : decode cX11_goes 7 = .ok (.aload_n 0, 1) := by decide +kernel
theorem dX11_goes_8 : decode cX11_goes 8 = .ok (.invokevirtual 103, 3) := by decide +kernel
theorem dX11_goes_11 : decode cX11_goes 11 = .ok (.iinc 2 1, 3) := by decide +kernel
theorem dX11_goes_14 : decode cX11_goes 14 = .ok (.goto (-12), 3) := by decide +kernel
theorem dX11_goes_17 : decode cX11_goes 17 = .ok (.return_, 1) := by decide +kernel
set_option maxRecDepth 20000 in
theorem ggX11_setOf_X11_isThrough : GoodIn wsX11_setOf wsX11_isThrough := goodIn_r _ [6, 7, 8, 9, 5, 10, 1, 27, 28, 29, 30, 31, 32, 33, 34, 35, 36, 37, 38, 39, 40, 41, 42, 43, 44, 45, 46, 47, 48, 49, 50] (by decide +kernel) (by decide +kernel)
set_option maxRecDepth 20000 in
theorem gX11_setOf_X11_isThrough : GoodIn wsX11_setOf (wsV RX11 96 RX11 yX11_isThrough wsX11_isThrough) := goodIn_app (goodIn_of _ (by decide +kernel)) ggX11_setOf_X11_isThrough
set_option maxRecDepth 20000 in
theorem ggX11_setOf_X11_doesSee : GoodIn wsX11_setOf wsX11_doesSee := goodIn_r _ [14, 7, 8, 9, 5, 10, 1, 15, 16, 17, 18, 19, 20, 21, 22, 23, 24, 25, 26, 27, 28, 29, 30, 31, 32, 33, 34, 35, 36, 37, 38, 39, 40, 41, 42, 43, 44, 45, 46, 47, 48, 49, 50] (by decide +kernel) (by decide +kernel)
set_option maxRecDepth 20000 in
theorem gX11_setOf_X11_doesSee : GoodIn wsX11_setOf (wsV RX11 76 RX11 yX11_doesSee wsX11_doesSee) := goodIn_app (goodIn_of _ (by decide +kernel)) ggX11_setOf_X11_doesSee
theorem dX11_setOf_0 : decode cX11_setOf 0 = .ok (.iconst 0, 1) := by decide +kernel
theorem dX11_setOf_1 : decode cX11_setOf 1 = .ok (.istore_n 2, 1) := by decide +kernel
theorem dX11_setOf_2 : decode cX11_setOf 2 = .ok (.iconst 0, 1) := by decide +kernel
theorem dX11_setOf_3 : decode cX11_setOf 3 = .ok (.istore_n 3, 1) := by decide +kernel
theorem dX11_setOf_4 : decode cX11_setOf 4 = .ok (.iload_n 3, 1) := by decide +kernel
theorem dX11_setOf_5 : decode cX11_setOf 5 = .ok (.aload_n 0, 1) := by decide +kernel
theorem dX11_setOf_6 : decode cX11_setOf 6 = .ok (.getfield 9, 3) := by decide +kernel
theorem dX11_setOf_9 : decode cX11_setOf 9 = .ok (.bipush 6, 2) := by decide +kernel
theorem dX11_setOf_11 : decode cX11_setOf 11 = .ok (.iaload, 1) := by decide +kernel
theorem dX11_setOf_12 : decode cX11_setOf 12 = .ok (.if_icmp .ge 60, 3) := by decide +kernel
theorem dX11_setOf_15 : decode cX11_setOf 15 = .ok (.iload_n 1, 1) := by decide +kernel
theorem dX11_setOf_16 : decode cX11_setOf 16 = .ok (.iconst 1, 1) := by decide +kernel
theorem dX11_setOf_17 : decode cX11_setOf 17 = .ok (.if_icmp .ne 11, 3) := by decide +kernel
theorem dX11_setOf_20 : decode cX11_setOf 20 = .ok (.aload_n 0, 1) := by decide +kernel
theorem dX11_setOf_21 : decode cX11_setOf 21 = .ok (.iload_n 3, 1) := by decide +kernel
theorem dX11_setOf_22 : decode cX11_setOf 22 = .ok (.invokevirtual 96, 3) := by decide +kernel
theorem dX11_setOf_25 : decode cX11_setOf 25 = .ok (.goto 24, 3) := by decide +kernel
theorem dX11_setOf_28 : decode cX11_setOf 28 = .ok (.aload_n 0, 1) := by decide +kernel
theorem dX11_setOf_29 : decode cX11_setOf 29 = .ok (.iload_n 3, 1) := by decide +kernel
theorem dX11_setOf_30 : decode cX11_setOf 30 = .ok (.invokevirtual 96, 3) := by decide +kernel
theorem dX11_setOf_33 : decode cX11_setOf 33 = .ok (.ifCond .ne 15, 3) := by decide +kernel
theorem dX11_setOf_36 : decode cX11_setOf 36 = .ok (.aload_n 0, 1) := by decide +kernel
theorem dX11_setOf_37 : decode cX11_setOf 37 = .ok (.iload_n 3, 1) := by decide +kernel
theorem dX11_setOf_38 : decode cX11_setOf 38 = .ok (.invokevirtual 76, 3) := by decide +kernel
theorem dX11_setOf_41 : decode cX11_setOf 41 = .ok (.ifCond .eq 7, 3) := by decide +kernel
theorem dX11_setOf_44 : decode cX11_setOf 44 = .ok (.iconst 1, 1) := by decide +kernel
theorem dX11_setOf_45 : decode cX11_setOf 45 = .ok (.goto 4, 3) := by decide +kernel
theorem dX11_setOf_48 : decode cX11_setOf 48 = .ok (.iconst 0, 1) := by decide +kernel
theorem dX11_setOf_49 : decode cX11_setOf 49 = .ok (.istore 4, 2) := by decide +kernel
theorem dX11_setOf_51 : decode cX11_setOf 51 = .ok (.iload_n 2, 1) := by decide +kernel
theorem dX11_setOf_52 : decode cX11_setOf 52 = .ok (.iload 4, 2) := by decide +kernel
theorem dX11_setOf_54 : decode cX11_setOf 54 = .ok (.ifCond .eq 9, 3) := by decide +kernel
theorem dX11_setOf_57 : decode cX11_setOf 57 = .ok (.iconst 1, 1) := by decide +kernel
theorem dX11_setOf_58 : decode cX11_setOf 58 = .ok (.iload_n 3, 1) := by decide +kernel
theorem dX11_setOf_59 : decode cX11_setOf 59 = .ok (.ishl, 1) := by decide +kernel
theorem dX11_setOf_60 : decode cX11_setOf 60 = .ok (.goto 4, 3) := by decide +kernel
theorem dX11_setOf_63 : decode cX11_setOf 63 = .ok (.iconst 0, 1) := by decide +kernel
theorem dX11_setOf_64 : decode cX11_setOf 64 = .ok (.ior, 1) := by decide +kernel
theorem dX11_setOf_65 : decode cX11_setOf 65 = .ok (.istore_n 2, 1) := by decide +kernel
theorem dX11_setOf_66 : decode cX11_setOf 66 = .ok (.iinc 3 1, 3) := by decide +kernel
theorem dX11_setOf_69 : decode cX11_setOf 69 = .ok (.goto (-65), 3) := by decide +kernel
theorem dX11_setOf_72 : decode cX11_setOf 72 = .ok (.iload_n 2, 1) := by decide +kernel
theorem dX11_setOf_73 : decode cX11_setOf 73 = .ok (.ireturn, 1) := by decide +kernel
theorem dX11_ones_0 : decode cX11_ones 0 = .ok (.iconst 0, 1) := by decide +kernel
theorem dX11_ones_1 : decode cX11_ones 1 = .ok (.istore_n 1, 1) := by decide +kernel
theorem dX11_ones_2 : decode cX11_ones 2 = .ok (.iload_n 0, 1) := by decide +kernel
theorem dX11_ones_3 : decode cX11_ones 3 = .ok (.istore_n 2, 1) := by decide +kernel
theorem dX11_ones_4 : decode cX11_ones 4 = .ok (.iload_n 2, 1) := by decide +kernel
theorem dX11_ones_5 : decode cX11_ones 5 = .ok (.ifCond .eq 15, 3) := by decide +kernel
theorem dX11_ones_8 : decode cX11_ones 8 = .ok (.iinc 1 1, 3) := by decide +kernel
theorem dX11_ones_11 : decode cX11_ones 11 = .ok (.iload_n 2, 1) := by decide +kernel
theorem dX11_ones_12 : decode cX11_ones 12 = .ok (.iload_n 2, 1) := by decide +kernel
theorem dX11_ones_13 : decode cX11_ones 13 = .ok (.iconst 1, 1) := by decide +kernel
theorem dX11_ones_14 : decode cX11_ones 14 = .ok (.isub, 1) := by decide +kernel
theorem dX11_ones_15 : decode cX11_ones 15 = .ok (.iand, 1) := by decide +kernel
theorem dX11_ones_16 : decode cX11_ones 16 = .ok (.istore_n 2, 1) := by decide +kernel
theorem dX11_ones_17 : decode cX11_ones 17 = .ok (.goto (-13), 3) := by decide +kernel
theorem dX11_ones_20 : decode cX11_ones 20 = .ok (.iload_n 1, 1) := by decide +kernel
theorem dX11_ones_21 : decode cX11_ones 21 = .ok (.ireturn, 1) := by decide +kernel
set_option maxRecDepth 20000 in
theorem ggX11_sumOf_X11_get : GoodIn wsX11_sumOf wsX11_get := goodIn_r _ [6, 1, 7, 8, 9, 10, 11, 12, 13, 14, 15, 16, 17, 18, 19, 20, 21, 22, 23, 24, 25, 26, 27, 28, 29, 30] (by decide +kernel) (by decide +kernel)
set_option maxRecDepth 20000 in
theorem gX11_sumOf_X11_get : GoodIn wsX11_sumOf (wsV RX11 61 RX11 yX11_get wsX11_get) := goodIn_app (goodIn_of _ (by decide +kernel)) ggX11_sumOf_X11_get
theorem dX11_sumOf_0 : decode cX11_sumOf 0 = .ok (.iconst 0, 1) := by decide +kernel
theorem dX11_sumOf_1 : decode cX11_sumOf 1 = .ok (.istore_n 2, 1) := by decide +kernel
theorem dX11_sumOf_2 : decode cX11_sumOf 2 = .ok (.iconst 0, 1) := by decide +kernel
theorem dX11_sumOf_3 : decode cX11_sumOf 3 = .ok (.istore_n 3, 1) := by decide +kernel
theorem dX11_sumOf_4 : decode cX11_sumOf 4 = .ok (.iload_n 3, 1) := by decide +kernel
theorem dX11_sumOf_5 : decode cX11_sumOf 5 = .ok (.aload_n 0, 1) := by decide +kernel
theorem dX11_sumOf_6 : decode cX11_sumOf 6 = .ok (.getfield 9, 3) := by decide +kernel
theorem dX11_sumOf_9 : decode cX11_sumOf 9 = .ok (.bipush 6, 2) := by decide +kernel
theorem dX11_sumOf_11 : decode cX11_sumOf 11 = .ok (.iaload, 1) := by decide +kernel
theorem dX11_sumOf_12 : decode cX11_sumOf 12 = .ok (.if_icmp .ge 18, 3) := by decide +kernel
theorem dX11_sumOf_15 : decode cX11_sumOf 15 = .ok (.iload_n 2, 1) := by decide +kernel
theorem dX11_sumOf_16 : decode cX11_sumOf 16 = .ok (.aload_n 0, 1) := by decide +kernel
theorem dX11_sumOf_17 : decode cX11_sumOf 17 = .ok (.iload_n 3, 1) := by decide +kernel
theorem dX11_sumOf_18 : decode cX11_sumOf 18 = .ok (.iload_n 1, 1) := by decide +kernel
theorem dX11_sumOf_19 : decode cX11_sumOf 19 = .ok (.invokevirtual 61, 3) := by decide +kernel
theorem dX11_sumOf_22 : decode cX11_sumOf 22 = .ok (.iadd, 1) := by decide +kernel
theorem dX11_sumOf_23 : decode cX11_sumOf 23 = .ok (.istore_n 2, 1) := by decide +kernel
theorem dX11_sumOf_24 : decode cX11_sumOf 24 = .ok (.iinc 3 1, 3) := by decide +kernel
theorem dX11_sumOf_27 : decode cX11_sumOf 27 = .ok (.goto (-23), 3) := by decide +kernel
theorem dX11_sumOf_30 : decode cX11_sumOf 30 = .ok (.iload_n 2, 1) := by decide +kernel
theorem dX11_sumOf_31 : decode cX11_sumOf 31 = .ok (.ireturn, 1) := by decide +kernel
theorem dX11_byteAt_0 : decode cX11_byteAt 0 = .ok (.iload_n 1, 1) := by decide +kernel
theorem dX11_byteAt_1 : decode cX11_byteAt 1 = .ok (.aload_n 0, 1) := by decide +kernel
theorem dX11_byteAt_2 : decode cX11_byteAt 2 = .ok (.getfield 106, 3) := by decide +kernel
theorem dX11_byteAt_5 : decode cX11_byteAt 5 = .ok (.if_icmp .ge 12, 3) := by decide +kernel
theorem dX11_byteAt_8 : decode cX11_byteAt 8 = .ok (.aload_n 0, 1) := by decide +kernel
theorem dX11_byteAt_9 : decode cX11_byteAt 9 = .ok (.getfield 25, 3) := by decide +kernel
theorem dX11_byteAt_12 : decode cX11_byteAt 12 = .ok (.iload_n 1, 1) := by decide +kernel
theorem dX11_byteAt_13 : decode cX11_byteAt 13 = .ok (.iaload, 1) := by decide +kernel
theorem dX11_byteAt_14 : decode cX11_byteAt 14 = .ok (.goto 4, 3) := by decide +kernel
theorem dX11_byteAt_17 : decode cX11_byteAt 17 = .ok (.iconst (-1), 1) := by decide +kernel
theorem dX11_byteAt_18 : decode cX11_byteAt 18 = .ok (.ireturn, 1) := by decide +kernel
set_option maxRecDepth 20000 in
theorem ggX11_isNameOf_X11_byteAt : GoodIn wsX11_isNameOf wsX11_byteAt := goodIn_r _ [8, 9, 10, 11, 12, 13, 14, 15, 16, 17, 18, 19, 20, 21, 22, 23, 24, 25, 26, 27, 28, 29, 30, 31, 32, 33, 34] (by decide +kernel) (by decide +kernel)
set_option maxRecDepth 20000 in
theorem gX11_isNameOf_X11_byteAt : GoodIn wsX11_isNameOf (wsV RX11 116 RX11 yX11_byteAt wsX11_byteAt) := goodIn_app (goodIn_of _ (by decide +kernel)) ggX11_isNameOf_X11_byteAt
theorem dX11_isNameOf_0 : decode cX11_isNameOf 0 = .ok (.aload_n 0, 1) := by decide +kernel
theorem dX11_isNameOf_1 : decode cX11_isNameOf 1 = .ok (.getfield 110, 3) := by decide +kernel
theorem dX11_isNameOf_4 : decode cX11_isNameOf 4 = .ok (.aload_n 0, 1) := by decide +kernel
theorem dX11_isNameOf_5 : decode cX11_isNameOf 5 = .ok (.getfield 113, 3) := by decide +kernel
theorem dX11_isNameOf_8 : decode cX11_isNameOf 8 = .ok (.isub, 1) := by decide +kernel
theorem dX11_isNameOf_9 : decode cX11_isNameOf 9 = .ok (.bipush 8, 2) := by decide +kernel
theorem dX11_isNameOf_11 : decode cX11_isNameOf 11 = .ok (.if_icmp .gt 7, 3) := by decide +kernel
theorem dX11_isNameOf_14 : decode cX11_isNameOf 14 = .ok (.iconst 1, 1) := by decide +kernel
theorem dX11_isNameOf_15 : decode cX11_isNameOf 15 = .ok (.goto 4, 3) := by decide +kernel
theorem dX11_isNameOf_18 : decode cX11_isNameOf 18 = .ok (.iconst 0, 1) := by decide +kernel
theorem dX11_isNameOf_19 : decode cX11_isNameOf 19 = .ok (.istore_n 2, 1) := by decide +kernel
theorem dX11_isNameOf_20 : decode cX11_isNameOf 20 = .ok (.iconst 0, 1) := by decide +kernel
theorem dX11_isNameOf_21 : decode cX11_isNameOf 21 = .ok (.istore_n 3, 1) := by decide +kernel
theorem dX11_isNameOf_22 : decode cX11_isNameOf 22 = .ok (.iload_n 3, 1) := by decide +kernel
theorem dX11_isNameOf_23 : decode cX11_isNameOf 23 = .ok (.bipush 8, 2) := by decide +kernel
theorem dX11_isNameOf_25 : decode cX11_isNameOf 25 = .ok (.if_icmp .ge 61, 3) := by decide +kernel
theorem dX11_isNameOf_28 : decode cX11_isNameOf 28 = .ok (.iload_n 2, 1) := by decide +kernel
theorem dX11_isNameOf_29 : decode cX11_isNameOf 29 = .ok (.ifCond .eq 57, 3) := by decide +kernel
theorem dX11_isNameOf_32 : decode cX11_isNameOf 32 = .ok (.aload_n 0, 1) := by decide +kernel
theorem dX11_isNameOf_33 : decode cX11_isNameOf 33 = .ok (.getfield 28, 3) := by decide +kernel
theorem dX11_isNameOf_36 : decode cX11_isNameOf 36 = .ok (.bipush 8, 2) := by decide +kernel
theorem dX11_isNameOf_38 : decode cX11_isNameOf 38 = .ok (.iload_n 1, 1) := by decide +kernel
theorem dX11_isNameOf_39 : decode cX11_isNameOf 39 = .ok (.imul, 1) := by decide +kernel
theorem dX11_isNameOf_40 : decode cX11_isNameOf 40 = .ok (.iload_n 3, 1) := by decide +kernel
theorem dX11_isNameOf_41 : decode cX11_isNameOf 41 = .ok (.iadd, 1) := by decide +kernel
theorem dX11_isNameOf_42 : decode cX11_isNameOf 42 = .ok (.caload, 1) := by decide +kernel
theorem dX11_isNameOf_43 : decode cX11_isNameOf 43 = .ok (.aload_n 0, 1) := by decide +kernel
theorem dX11_isNameOf_44 : decode cX11_isNameOf 44 = .ok (.getfield 113, 3) := by decide +kernel
theorem dX11_isNameOf_47 : decode cX11_isNameOf 47 = .ok (.iload_n 3, 1) := by decide +kernel
theorem dX11_isNameOf_48 : decode cX11_isNameOf 48 = .ok (.iadd, 1) := by decide +kernel
theorem dX11_isNameOf_49 : decode cX11_isNameOf 49 = .ok (.aload_n 0, 1) := by decide +kernel
theorem dX11_isNameOf_50 : decode cX11_isNameOf 50 = .ok (.getfield 110, 3) := by decide +kernel
theorem dX11_isNameOf_53 : decode cX11_isNameOf 53 = .ok (.if_icmp .ge 16, 3) := by decide +kernel
theorem dX11_isNameOf_56 : decode cX11_isNameOf 56 = .ok (.aload_n 0, 1) := by decide +kernel
theorem dX11_isNameOf_57 : decode cX11_isNameOf 57 = .ok (.aload_n 0, 1) := by decide +kernel
theorem dX11_isNameOf_58 : decode cX11_isNameOf 58 = .ok (.getfield 113, 3) := by decide +kernel
theorem dX11_isNameOf_61 : decode cX11_isNameOf 61 = .ok (.iload_n 3, 1) := by decide +kernel
theorem dX11_isNameOf_62 : decode cX11_isNameOf 62 = .ok (.iadd, 1) := by decide +kernel
theorem dX11_isNameOf_63 : decode cX11_isNameOf 63 = .ok (.invokevirtual 116, 3) := by decide +kernel
theorem dX11_isNameOf_66 : decode cX11_isNameOf 66 = .ok (.goto 5, 3) := by decide +kernel
theorem dX11_isNameOf_69 : decode cX11_isNameOf 69 = .ok (.bipush 32, 2) := by decide +kernel
theorem dX11_isNameOf_71 : decode cX11_isNameOf 71 = .ok (.if_icmp .ne 7, 3) := by decide +kernel
theorem dX11_isNameOf_74 : decode cX11_isNameOf 74 = .ok (.iconst 1, 1) := by decide +kernel
theorem dX11_isNameOf_75 : decode cX11_isNameOf 75 = .ok (.goto 4, 3) := by decide +kernel
theorem dX11_isNameOf_78 : decode cX11_isNameOf 78 = .ok (.iconst 0, 1) := by decide +kernel
theorem dX11_isNameOf_79 : decode cX11_isNameOf 79 = .ok (.istore_n 2, 1) := by decide +kernel
theorem dX11_isNameOf_80 : decode cX11_isNameOf 80 = .ok (.iinc 3 1, 3) := by decide +kernel
theorem dX11_isNameOf_83 : decode cX11_isNameOf 83 = .ok (.goto (-61), 3) := by decide +kernel
theorem dX11_isNameOf_86 : decode cX11_isNameOf 86 = .ok (.iload_n 2, 1) := by decide +kernel
theorem dX11_isNameOf_87 : decode cX11_isNameOf 87 = .ok (.ireturn, 1) := by decide +kernel
set_option maxRecDepth 20000 in
theorem ggX11_readsName_X11_byteAt : GoodIn wsX11_readsName wsX11_byteAt := goodIn_r _ [7, 8, 9, 19, 20, 21, 22, 23, 24, 25, 26, 27, 28, 29, 30, 31, 32, 33, 34, 35, 36, 37, 38, 39, 40, 41, 42] (by decide +kernel) (by decide +kernel)
set_option maxRecDepth 20000 in
theorem gX11_readsName_X11_byteAt : GoodIn wsX11_readsName (wsV RX11 116 RX11 yX11_byteAt wsX11_byteAt) := goodIn_app (goodIn_of _ (by decide +kernel)) ggX11_readsName_X11_byteAt
set_option maxRecDepth 20000 in
theorem ggX11_readsName_X11_in1 : GoodIn wsX11_readsName wsX11_in1 := goodIn_r _ [12] (by decide +kernel) (by decide +kernel)
set_option maxRecDepth 20000 in
theorem gX11_readsName_X11_in1 : GoodIn wsX11_readsName (va_wsS RX11 57 yX11_in1 wsX11_in1) := goodIn_app (goodIn_of _ (by decide +kernel)) ggX11_readsName_X11_in1
set_option maxRecDepth 20000 in
theorem ggX11_readsName_X11_isNameOf : GoodIn wsX11_readsName wsX11_isNameOf := goodIn_r _ [16, 1, 17, 18, 3, 4, 5, 6, 7, 8, 9, 19, 20, 21, 22, 23, 24, 25, 26, 27, 28, 29, 30, 31, 32, 33, 34, 35, 36, 37, 38, 39, 40, 41, 42] (by decide +kernel) (by decide +kernel)
set_option maxRecDepth 20000 in
theorem gX11_readsName_X11_isNameOf : GoodIn wsX11_readsName (wsV RX11 122 RX11 yX11_isNameOf wsX11_isNameOf) := goodIn_app (goodIn_of _ (by decide +kernel)) ggX11_readsName_X11_isNameOf
theorem dX11_readsName_0 : decode cX11_readsName 0 = .ok (.aload_n 0, 1) := by decide +kernel
theorem dX11_readsName_1 : decode cX11_readsName 1 = .ok (.aload_n 0, 1) := by decide +kernel
theorem dX11_readsName_2 : decode cX11_readsName 2 = .ok (.getfield 110, 3) := by decide +kernel
theorem dX11_readsName_5 : decode cX11_readsName 5 = .ok (.invokevirtual 116, 3) := by decide +kernel
theorem dX11_readsName_8 : decode cX11_readsName 8 = .ok (.bipush 97, 2) := by decide +kernel
theorem dX11_readsName_10 : decode cX11_readsName 10 = .ok (.bipush 122, 2) := by decide +kernel
theorem dX11_readsName_12 : decode cX11_readsName 12 = .ok (.invokestatic 57, 3) := by decide +kernel
theorem dX11_readsName_15 : decode cX11_readsName 15 = .ok (.ifCond .eq 16, 3) := by decide +kernel
theorem dX11_readsName_18 : decode cX11_readsName 18 = .ok (.aload_n 0, 1) := by decide +kernel
theorem dX11_readsName_19 : decode cX11_readsName 19 = .ok (.dup, 1) := by decide +kernel
theorem dX11_readsName_20 : decode cX11_readsName 20 = .ok (.getfield 110, 3) := by decide +kernel
theorem dX11_readsName_23 : decode cX11_readsName 23 = .ok (.iconst 1, 1) := by decide +kernel
theorem dX11_readsName_24 : decode cX11_readsName 24 = .ok (.iadd, 1) := by decide +kernel
theorem dX11_readsName_25 : decode cX11_readsName 25 = .ok (.putfield 110, 3) := by decide +kernel
theorem dX11_readsName_28 : decode cX11_readsName 28 = .ok (.goto (-28), 3) := by decide +kernel
theorem dX11_readsName_31 : decode cX11_readsName 31 = .ok (.aload_n 0, 1) := by decide +kernel
theorem dX11_readsName_32 : decode cX11_readsName 32 = .ok (.bipush 101, 2) := by decide +kernel
theorem dX11_readsName_34 : decode cX11_readsName 34 = .ok (.putfield 119, 3) := by decide +kernel
theorem dX11_readsName_37 : decode cX11_readsName 37 = .ok (.iconst 0, 1) := by decide +kernel
theorem dX11_readsName_38 : decode cX11_readsName 38 = .ok (.istore_n 1, 1) := by decide +kernel
theorem dX11_readsName_39 : decode cX11_readsName 39 = .ok (.iload_n 1, 1) := by decide +kernel
theorem dX11_readsName_40 : decode cX11_readsName 40 = .ok (.bipush 15, 2) := by decide +kernel
theorem dX11_readsName_42 : decode cX11_readsName 42 = .ok (.if_icmp .ge 29, 3) := by decide +kernel
theorem dX11_readsName_45 : decode cX11_readsName 45 = .ok (.aload_n 0, 1) := by decide +kernel
theorem dX11_readsName_46 : decode cX11_readsName 46 = .ok (.aload_n 0, 1) := by decide +kernel
theorem dX11_readsName_47 : decode cX11_readsName 47 = .ok (.iload_n 1, 1) := by decide +kernel
theorem dX11_readsName_48 : decode cX11_readsName 48 = .ok (.invokevirtual 122, 3) := by decide +kernel
theorem dX11_readsName_51 : decode cX11_readsName 51 = .ok (.ifCond .eq 7, 3) := by decide +kernel
theorem dX11_readsName_54 : decode cX11_readsName 54 = .ok (.iload_n 1, 1) := by decide +kernel
theorem dX11_readsName_55 : decode cX11_readsName 55 = .ok (.goto 7, 3) := by decide +kernel
theorem dX11_readsName_58 : decode cX11_readsName 58 = .ok (.aload_n 0, 1) := by decide +kernel
theorem dX11_readsName_59 : decode cX11_readsName 59 = .ok (.getfield 119, 3) := by decide +kernel
theorem dX11_readsName_62 : decode cX11_readsName 62 = .ok (.putfield 119, 3) := by decide +kernel
theorem dX11_readsName_65 : decode cX11_readsName 65 = .ok (.iinc 1 1, 3) := by decide +kernel
theorem dX11_readsName_68 : decode cX11_readsName 68 = .ok (.goto (-29), 3) := by decide +kernel
theorem dX11_readsName_71 : decode cX11_readsName 71 = .ok (.return_, 1) := by decide +kernel
set_option maxRecDepth 20000 in
theorem ggX11_readsNumber_X11_byteAt : GoodIn wsX11_readsNumber wsX11_byteAt := goodIn_r _ [9, 10, 11, 15, 16, 17, 18, 19, 20, 21, 22, 23, 24, 25, 26, 27, 28, 29, 30, 31, 32, 33, 34, 35, 36, 37, 38] (by decide +kernel) (by decide +kernel)
set_option maxRecDepth 20000 in
theorem gX11_readsNumber_X11_byteAt : GoodIn wsX11_readsNumber (wsV RX11 116 RX11 yX11_byteAt wsX11_byteAt) := goodIn_app (goodIn_of _ (by decide +kernel)) ggX11_readsNumber_X11_byteAt
set_option maxRecDepth 20000 in
theorem ggX11_readsNumber_X11_in1 : GoodIn wsX11_readsNumber wsX11_in1 := goodIn_r _ [14] (by decide +kernel) (by decide +kernel)
set_option maxRecDepth 20000 in
theorem gX11_readsNumber_X11_in1 : GoodIn wsX11_readsNumber (va_wsS RX11 57 yX11_in1 wsX11_in1) := goodIn_app (goodIn_of _ (by decide +kernel)) ggX11_readsNumber_X11_in1
theorem dX11_readsNumber_0 : decode cX11_readsNumber 0 = .ok (.aload_n 0, 1) := by decide +kernel
theorem dX11_readsNumber_1 : decode cX11_readsNumber 1 = .ok (.iconst 0, 1) := by decide +kernel
theorem dX11_readsNumber_2 : decode cX11_readsNumber 2 = .ok (.putfield 125, 3) := by decide +kernel
theorem dX11_readsNumber_5 : decode cX11_readsNumber 5 = .ok (.aload_n 0, 1) := by decide +kernel
theorem dX11_readsNumber_6 : decode cX11_readsNumber 6 = .ok (.aload_n 0, 1) := by decide +kernel
theorem dX11_readsNumber_7 : decode cX11_readsNumber 7 = .ok (.getfield 110, 3) := by decide +kernel
theorem dX11_readsNumber_10 : decode cX11_readsNumber 10 = .ok (.invokevirtual 116, 3) := by decide +kernel
theorem dX11_readsNumber_13 : decode cX11_readsNumber 13 = .ok (.bipush 48, 2) := by decide +kernel
theorem dX11_readsNumber_15 : decode cX11_readsNumber 15 = .ok (.bipush 57, 2) := by decide +kernel
theorem dX11_readsNumber_17 : decode cX11_readsNumber 17 = .ok (.invokestatic 57, 3) := by decide +kernel
theorem dX11_readsNumber_20 : decode cX11_readsNumber 20 = .ok (.ifCond .eq 59, 3) := by decide +kernel
theorem dX11_readsNumber_23 : decode cX11_readsNumber 23 = .ok (.aload_n 0, 1) := by decide +kernel
theorem dX11_readsNumber_24 : decode cX11_readsNumber 24 = .ok (.aload_n 0, 1) := by decide +kernel
theorem dX11_readsNumber_25 : decode cX11_readsNumber 25 = .ok (.getfield 110, 3) := by decide +kernel
theorem dX11_readsNumber_28 : decode cX11_readsNumber 28 = .ok (.aload_n 0, 1) := by decide +kernel
theorem dX11_readsNumber_29 : decode cX11_readsNumber 29 = .ok (.getfield 113, 3) := by decide +kernel
theorem dX11_readsNumber_32 : decode cX11_readsNumber 32 = .ok (.isub, 1) := by decide +kernel
theorem dX11_readsNumber_33 : decode cX11_readsNumber 33 = .ok (.iconst 3, 1) := by decide +kernel
theorem dX11_readsNumber_34 : decode cX11_readsNumber 34 = .ok (.if_icmp .ge 25, 3) := by decide +kernel
theorem dX11_readsNumber_37 : decode cX11_readsNumber 37 = .ok (.bipush 10, 2) := by decide +kernel
theorem dX11_readsNumber_39 : decode cX11_readsNumber 39 = .ok (.aload_n 0, 1) := by decide +kernel
theorem dX11_readsNumber_40 : decode cX11_readsNumber 40 = .ok (.getfield 125, 3) := by decide +kernel
theorem dX11_readsNumber_43 : decode cX11_readsNumber 43 = .ok (.imul, 1) := by decide +kernel
theorem dX11_readsNumber_44 : decode cX11_readsNumber 44 = .ok (.aload_n 0, 1) := by decide +kernel
theorem dX11_readsNumber_45 : decode cX11_readsNumber 45 = .ok (.aload_n 0, 1) := by decide +kernel
theorem dX11_readsNumber_46 : decode cX11_readsNumber 46 = .ok (.getfield 110, 3) := by decide +kernel
theorem dX11_readsNumber_49 : decode cX11_readsNumber 49 = .ok (.invokevirtual 116, 3) := by decide +kernel
theorem dX11_readsNumber_52 : decode cX11_readsNumber 52 = .ok (.iadd, 1) := by decide +kernel
theorem dX11_readsNumber_53 : decode cX11_readsNumber 53 = .ok (.bipush 48, 2) := by decide +kernel
theorem dX11_readsNumber_55 : decode cX11_readsNumber 55 = .ok (.isub, 1) := by decide +kernel
theorem dX11_readsNumber_56 : decode cX11_readsNumber 56 = .ok (.goto 7, 3) := by decide +kernel
theorem dX11_readsNumber_59 : decode cX11_readsNumber 59 = .ok (.aload_n 0, 1) := by decide +kernel
theorem dX11_readsNumber_60 : decode cX11_readsNumber 60 = .ok (.getfield 125, 3) := by decide +kernel
theorem dX11_readsNumber_63 : decode cX11_readsNumber 63 = .ok (.putfield 125, 3) := by decide +kernel
theorem dX11_readsNumber_66 : decode cX11_readsNumber 66 = .ok (.aload_n 0, 1) := by decide +kernel
theorem dX11_readsNumber_67 : decode cX11_readsNumber 67 = .ok (.dup, 1) := by decide +kernel
theorem dX11_readsNumber_68 : decode cX11_readsNumber 68 = .ok (.getfield 110, 3) := by decide +kernel
theorem dX11_readsNumber_71 : decode cX11_readsNumber 71 = .ok (.iconst 1, 1) := by decide +kernel
theorem dX11_readsNumber_72 : decode cX11_readsNumber 72 = .ok (.iadd, 1) := by decide +kernel
theorem dX11_readsNumber_73 : decode cX11_readsNumber 73 = .ok (.putfield 110, 3) := by decide +kernel
theorem dX11_readsNumber_76 : decode cX11_readsNumber 76 = .ok (.goto (-71), 3) := by decide +kernel
theorem dX11_readsNumber_79 : decode cX11_readsNumber 79 = .ok (.aload_n 0, 1) := by decide +kernel
theorem dX11_readsNumber_80 : decode cX11_readsNumber 80 = .ok (.aload_n 0, 1) := by decide +kernel
theorem dX11_readsNumber_81 : decode cX11_readsNumber 81 = .ok (.getfield 110, 3) := by decide +kernel
theorem dX11_readsNumber_84 : decode cX11_readsNumber 84 = .ok (.aload_n 0, 1) := by decide +kernel
theorem dX11_readsNumber_85 : decode cX11_readsNumber 85 = .ok (.getfield 113, 3) := by decide +kernel
theorem dX11_readsNumber_88 : decode cX11_readsNumber 88 = .ok (.isub, 1) := by decide +kernel
theorem dX11_readsNumber_89 : decode cX11_readsNumber 89 = .ok (.iconst 3, 1) := by decide +kernel
theorem dX11_readsNumber_90 : decode cX11_readsNumber 90 = .ok (.if_icmp .le 8, 3) := by decide +kernel
theorem dX11_readsNumber_93 : decode cX11_readsNumber 93 = .ok (.bipush 101, 2) := by decide +kernel
theorem dX11_readsNumber_95 : decode cX11_readsNumber 95 = .ok (.goto 5, 3) := by decide +kernel
theorem dX11_readsNumber_98 : decode cX11_readsNumber 98 = .ok (.bipush 100, 2) := by decide +kernel
theorem dX11_readsNumber_100 : decode cX11_readsNumber 100 = .ok (.putfield 119, 3) := by decide +kernel
theorem dX11_readsNumber_103 : decode cX11_readsNumber 103 = .ok (.return_, 1) := by decide +kernel
set_option maxRecDepth 20000 in
theorem ggX11_next_X11_byteAt : GoodIn wsX11_next wsX11_byteAt := goodIn_r _ [8, 9, 10, 28, 29, 30, 31, 32, 33, 34, 35, 36, 37, 38, 39, 40, 41, 42, 43, 44, 45, 46, 47, 48, 49, 50, 51] (by decide +kernel) (by decide +kernel)
set_option maxRecDepth 20000 in
theorem gX11_next_X11_byteAt : GoodIn wsX11_next (wsV RX11 116 RX11 yX11_byteAt wsX11_byteAt) := goodIn_app (goodIn_of _ (by decide +kernel)) ggX11_next_X11_byteAt
set_option maxRecDepth 20000 in
theorem ggX11_next_X11_in1 : GoodIn wsX11_next wsX11_in1 := goodIn_r _ [13] (by decide +kernel) (by decide +kernel)
set_option maxRecDepth 20000 in
theorem gX11_next_X11_in1 : GoodIn wsX11_next (va_wsS RX11 57 yX11_in1 wsX11_in1) := goodIn_app (goodIn_of _ (by decide +kernel)) ggX11_next_X11_in1
set_option maxRecDepth 20000 in
theorem ggX11_next_X11_readsName : GoodIn wsX11_next wsX11_readsName := goodIn_r _ [17, 1, 3, 4, 5, 6, 7, 8, 9, 10, 11, 12, 13, 18, 19, 20, 21, 2, 22, 28, 29, 30, 31, 32, 33, 34, 35, 36, 37, 38, 39, 40, 41, 42, 43, 44, 45, 46, 47, 48, 49, 50, 51] (by decide +kernel) (by decide +kernel)
set_option maxRecDepth 20000 in
theorem gX11_next_X11_readsName : GoodIn wsX11_next (wsV RX11 128 RX11 yX11_readsName wsX11_readsName) := goodIn_app (goodIn_of _ (by decide +kernel)) ggX11_next_X11_readsName
set_option maxRecDepth 20000 in
theorem ggX11_next_X11_readsNumber : GoodIn wsX11_next wsX11_readsNumber := goodIn_r _ [26, 27, 1, 2, 3, 4, 5, 6, 7, 8, 9, 10, 11, 12, 13, 28, 29, 30, 31, 32, 33, 34, 35, 36, 37, 38, 39, 40, 41, 42, 43, 44, 45, 46, 47, 48, 49, 50, 51] (by decide +kernel) (by decide +kernel)
set_option maxRecDepth 20000 in
theorem gX11_next_X11_readsNumber : GoodIn wsX11_next (wsV RX11 131 RX11 yX11_readsNumber wsX11_readsNumber) := goodIn_app (goodIn_of _ (by decide +kernel)) ggX11_next_X11_readsNumber
theorem dX11_next_0 : decode cX11_next 0 = .ok (.aload_n 0, 1) := by decide +kernel
theorem dX11_next_1 : decode cX11_next 1 = .ok (.aload_n 0, 1) := by decide +kernel
theorem dX11_next_2 : decode cX11_next 2 = .ok (.getfield 110, 3) := by decide +kernel
theorem dX11_next_5 : decode cX11_next 5 = .ok (.invokevirtual 116, 3) := by decide +kernel
theorem dX11_next_8 : decode cX11_next 8 = .ok (.bipush 32, 2) := by decide +kernel
theorem dX11_next_10 : decode cX11_next 10 = .ok (.if_icmp .ne 16, 3) := by decide +kernel
theorem dX11_next_13 : decode cX11_next 13 = .ok (.aload_n 0, 1) := by decide +kernel
theorem dX11_next_14 : decode cX11_next 14 = .ok (.dup, 1) := by decide +kernel
theorem dX11_next_15 : decode cX11_next 15 = .ok (.getfield 110, 3) := by decide +kernel
theorem dX11_next_18 : decode cX11_next 18 = .ok (.iconst 1, 1) := by decide +kernel
theorem dX11_next_19 : decode cX11_next 19 = .ok (.iadd, 1) := by decide +kernel
theorem dX11_next_20 : decode cX11_next 20 = .ok (.putfield 110, 3) := by decide +kernel
theorem dX11_next_23 : decode cX11_next 23 = .ok (.goto (-23), 3) := by decide +kernel
theorem dX11_next_26 : decode cX11_next 26 = .ok (.aload_n 0, 1) := by decide +kernel
theorem dX11_next_27 : decode cX11_next 27 = .ok (.aload_n 0, 1) := by decide +kernel
theorem dX11_next_28 : decode cX11_next 28 = .ok (.getfield 110, 3) := by decide +kernel
theorem dX11_next_31 : decode cX11_next 31 = .ok (.putfield 113, 3) := by decide +kernel
theorem dX11_next_34 : decode cX11_next 34 = .ok (.aload_n 0, 1) := by decide +kernel
theorem dX11_next_35 : decode cX11_next 35 = .ok (.aload_n 0, 1) := by decide +kernel
theorem dX11_next_36 : decode cX11_next 36 = .ok (.getfield 110, 3) := by decide +kernel
theorem dX11_next_39 : decode cX11_next 39 = .ok (.invokevirtual 116, 3) := by decide +kernel
theorem dX11_next_42 : decode cX11_next 42 = .ok (.istore_n 1, 1) := by decide +kernel
theorem dX11_next_43 : decode cX11_next 43 = .ok (.iload_n 1, 1) := by decide +kernel
theorem dX11_next_44 : decode cX11_next 44 = .ok (.ifCond .ge 11, 3) := by decide +kernel
theorem dX11_next_47 : decode cX11_next 47 = .ok (.aload_n 0, 1) := by decide +kernel
theorem dX11_next_48 : decode cX11_next 48 = .ok (.iconst (-1), 1) := by decide +kernel
theorem dX11_next_49 : decode cX11_next 49 = .ok (.putfield 119, 3) := by decide +kernel
theorem dX11_next_52 : decode cX11_next 52 = .ok (.goto 58, 3) := by decide +kernel
theorem dX11_next_55 : decode cX11_next 55 = .ok (.iload_n 1, 1) := by decide +kernel
theorem dX11_next_56 : decode cX11_next 56 = .ok (.bipush 97, 2) := by decide +kernel
theorem dX11_next_58 : decode cX11_next 58 = .ok (.bipush 122, 2) := by decide +kernel
theorem dX11_next_60 : decode cX11_next 60 = .ok (.invokestatic 57, 3) := by decide +kernel
theorem dX11_next_63 : decode cX11_next 63 = .ok (.ifCond .eq 10, 3) := by decide +kernel
theorem dX11_next_66 : decode cX11_next 66 = .ok (.aload_n 0, 1) := by decide +kernel
theorem dX11_next_67 : decode cX11_next 67 = .ok (.invokevirtual 128, 3) := by decide +kernel
theorem dX11_next_70 : decode cX11_next 70 = .ok (.goto 40, 3) := by decide +kernel
theorem dX11_next_73 : decode cX11_next 73 = .ok (.iload_n 1, 1) := by decide +kernel
theorem dX11_next_74 : decode cX11_next 74 = .ok (.bipush 48, 2) := by decide +kernel
theorem dX11_next_76 : decode cX11_next 76 = .ok (.bipush 57, 2) := by decide +kernel
theorem dX11_next_78 : decode cX11_next 78 = .ok (.invokestatic 57, 3) := by decide +kernel
theorem dX11_next_81 : decode cX11_next 81 = .ok (.ifCond .eq 10, 3) := by decide +kernel
theorem dX11_next_84 : decode cX11_next 84 = .ok (.aload_n 0, 1) := by decide +kernel
theorem dX11_next_85 : decode cX11_next 85 = .ok (.invokevirtual 131, 3) := by decide +kernel
theorem dX11_next_88 : decode cX11_next 88 = .ok (.goto 22, 3) := by decide +kernel
theorem dX11_next_91 : decode cX11_next 91 = .ok (.aload_n 0, 1) := by decide +kernel
theorem dX11_next_92 : decode cX11_next 92 = .ok (.sipush 200, 3) := by decide +kernel
theorem dX11_next_95 : decode cX11_next 95 = .ok (.iload_n 1, 1) := by decide +kernel
theorem dX11_next_96 : decode cX11_next 96 = .ok (.iadd, 1) := by decide +kernel
theorem dX11_next_97 : decode cX11_next 97 = .ok (.putfield 119, 3) := by decide +kernel
theorem dX11_next_100 : decode cX11_next 100 = .ok (.aload_n 0, 1) := by decide +kernel
theorem dX11_next_101 : decode cX11_next 101 = .ok (.dup, 1) := by decide +kernel
theorem dX11_next_102 : decode cX11_next 102 = .ok (.getfield 110, 3) := by decide +kernel
theorem dX11_next_105 : decode cX11_next 105 = .ok (.iconst 1, 1) := by decide +kernel
theorem dX11_next_106 : decode cX11_next 106 = .ok (.iadd, 1) := by decide +kernel
theorem dX11_next_107 : decode cX11_next 107 = .ok (.putfield 110, 3) := by decide +kernel
theorem dX11_next_110 : decode cX11_next 110 = .ok (.return_, 1) := by decide +kernel
set_option maxRecDepth 20000 in
theorem ggX11_takes_X11_next : GoodIn wsX11_takes wsX11_next := goodIn_r _ [6, 7, 8, 1, 9, 10, 11, 5, 12, 13, 14, 15, 16, 17, 18, 19, 20, 21, 22, 23, 24, 25, 26, 27, 28, 29, 30, 31, 32, 33, 34, 35, 36, 37, 38, 39, 40, 41, 42, 43, 44, 45, 46, 47, 48, 49, 50, 51, 52, 53, 54, 55] (by decide +kernel) (by decide +kernel)
set_option maxRecDepth 20000 in
theorem gX11_takes_X11_next : GoodIn wsX11_takes (wsV RX11 134 RX11 yX11_next wsX11_next) := goodIn_app (goodIn_of _ (by decide +kernel)) ggX11_takes_X11_next
theorem dX11_takes_0 : decode cX11_takes 0 = .ok (.aload_n 0, 1) := by decide +kernel
theorem dX11_takes_1 : decode cX11_takes 1 = .ok (.getfield 119, 3) := by decide +kernel
theorem dX11_takes_4 : decode cX11_takes 4 = .ok (.iload_n 1, 1) := by decide +kernel
theorem dX11_takes_5 : decode cX11_takes 5 = .ok (.if_icmp .ne 7, 3) := by decide +kernel
theorem dX11_takes_8 : decode cX11_takes 8 = .ok (.iconst 1, 1) := by decide +kernel
theorem dX11_takes_9 : decode cX11_takes 9 = .ok (.goto 4, 3) := by decide +kernel
theorem dX11_takes_12 : decode cX11_takes 12 = .ok (.iconst 0, 1) := by decide +kernel
theorem dX11_takes_13 : decode cX11_takes 13 = .ok (.istore_n 2, 1) := by decide +kernel
theorem dX11_takes_14 : decode cX11_takes 14 = .ok (.iload_n 2, 1) := by decide +kernel
theorem dX11_takes_15 : decode cX11_takes 15 = .ok (.ifCond .eq 7, 3) := by decide +kernel
theorem dX11_takes_18 : decode cX11_takes 18 = .ok (.aload_n 0, 1) := by decide +kernel
theorem dX11_takes_19 : decode cX11_takes 19 = .ok (.invokevirtual 134, 3) := by decide +kernel
theorem dX11_takes_22 : decode cX11_takes 22 = .ok (.iload_n 2, 1) := by decide +kernel
theorem dX11_takes_23 : decode cX11_takes 23 = .ok (.ireturn, 1) := by decide +kernel
set_option maxRecDepth 20000 in
theorem ggX11_takesNumber_X11_next : GoodIn wsX11_takesNumber wsX11_next := goodIn_r _ [7, 8, 9, 1, 10, 11, 12, 6, 13, 14, 15, 16, 17, 18, 19, 20, 21, 22, 23, 24, 25, 26, 27, 28, 29, 30, 31, 2, 32, 33, 34, 35, 36, 37, 38, 39, 40, 41, 42, 43, 44, 45, 46, 47, 48, 49, 50, 51, 52, 53, 54, 55] (by decide +kernel) (by decide +kernel)
set_option maxRecDepth 20000 in
theorem gX11_takesNumber_X11_next : GoodIn wsX11_takesNumber (wsV RX11 134 RX11 yX11_next wsX11_next) := goodIn_app (goodIn_of _ (by decide +kernel)) ggX11_takesNumber_X11_next
theorem dX11_takesNumber_0 : decode cX11_takesNumber 0 = .ok (.aload_n 0, 1) := by decide +kernel
theorem dX11_takesNumber_1 : decode cX11_takesNumber 1 = .ok (.getfield 119, 3) := by decide +kernel
theorem dX11_takesNumber_4 : decode cX11_takesNumber 4 = .ok (.bipush 100, 2) := by decide +kernel
theorem dX11_takesNumber_6 : decode cX11_takesNumber 6 = .ok (.if_icmp .ne 18, 3) := by decide +kernel
theorem dX11_takesNumber_9 : decode cX11_takesNumber 9 = .ok (.aload_n 0, 1) := by decide +kernel
theorem dX11_takesNumber_10 : decode cX11_takesNumber 10 = .ok (.getfield 125, 3) := by decide +kernel
theorem dX11_takesNumber_13 : decode cX11_takesNumber 13 = .ok (.iload_n 1, 1) := by decide +kernel
theorem dX11_takesNumber_14 : decode cX11_takesNumber 14 = .ok (.if_icmp .gt 10, 3) := by decide +kernel
theorem dX11_takesNumber_17 : decode cX11_takesNumber 17 = .ok (.aload_n 0, 1) := by decide +kernel
theorem dX11_takesNumber_18 : decode cX11_takesNumber 18 = .ok (.getfield 125, 3) := by decide +kernel
theorem dX11_takesNumber_21 : decode cX11_takesNumber 21 = .ok (.goto 4, 3) := by decide +kernel
theorem dX11_takesNumber_24 : decode cX11_takesNumber 24 = .ok (.iconst (-1), 1) := by decide +kernel
theorem dX11_takesNumber_25 : decode cX11_takesNumber 25 = .ok (.istore_n 2, 1) := by decide +kernel
theorem dX11_takesNumber_26 : decode cX11_takesNumber 26 = .ok (.iload_n 2, 1) := by decide +kernel
theorem dX11_takesNumber_27 : decode cX11_takesNumber 27 = .ok (.ifCond .lt 7, 3) := by decide +kernel
theorem dX11_takesNumber_30 : decode cX11_takesNumber 30 = .ok (.aload_n 0, 1) := by decide +kernel
theorem dX11_takesNumber_31 : decode cX11_takesNumber 31 = .ok (.invokevirtual 134, 3) := by decide +kernel
theorem dX11_takesNumber_34 : decode cX11_takesNumber 34 = .ok (.iload_n 2, 1) := by decide +kernel
theorem dX11_takesNumber_35 : decode cX11_takesNumber 35 = .ok (.ireturn, 1) := by decide +kernel
set_option maxRecDepth 20000 in
theorem ggX11_readsGoer_X11_next : GoodIn wsX11_readsGoer wsX11_next := goodIn_r _ [6, 7, 8, 9, 10, 11, 12, 5, 13, 14, 15, 16, 17, 18, 19, 20, 21, 22, 23, 24, 25, 26, 27, 28, 29, 30, 31, 32, 41, 42, 43, 44, 45, 46, 47, 48, 49, 50, 51, 52, 53, 54, 55, 56, 57, 58, 59, 60, 61, 62, 63, 64] (by decide +kernel) (by decide +kernel)
set_option maxRecDepth 20000 in
theorem gX11_readsGoer_X11_next : GoodIn wsX11_readsGoer (wsV RX11 134 RX11 yX11_next wsX11_next) := goodIn_app (goodIn_of _ (by decide +kernel)) ggX11_readsGoer_X11_next
set_option maxRecDepth 20000 in
theorem ggX11_readsGoer_X11_takes : GoodIn wsX11_readsGoer wsX11_takes := goodIn_r _ [36, 9, 2, 3, 4, 5, 6, 7, 8, 10, 11, 12, 13, 14, 15, 16, 17, 18, 19, 20, 21, 22, 23, 24, 25, 26, 27, 28, 29, 30, 31, 32, 41, 42, 43, 44, 45, 46, 47, 48, 49, 50, 51, 52, 53, 54, 55, 56, 57, 58, 59, 60, 61, 62, 63, 64] (by decide +kernel) (by decide +kernel)
set_option maxRecDepth 20000 in
theorem gX11_readsGoer_X11_takes : GoodIn wsX11_readsGoer (wsV RX11 137 RX11 yX11_takes wsX11_takes) := goodIn_app (goodIn_of _ (by decide +kernel)) ggX11_readsGoer_X11_takes
set_option maxRecDepth 20000 in
theorem ggX11_readsGoer_X11_takesNumber : GoodIn wsX11_readsGoer wsX11_takesNumber := goodIn_r _ [40, 9, 32, 2, 3, 4, 5, 6, 7, 8, 10, 11, 12, 13, 14, 15, 16, 17, 18, 19, 20, 21, 22, 23, 24, 25, 26, 27, 28, 29, 30, 31, 41, 42, 43, 44, 45, 46, 47, 48, 49, 50, 51, 52, 53, 54, 55, 56, 57, 58, 59, 60, 61, 62, 63, 64] (by decide +kernel) (by decide +kernel)
set_option maxRecDepth 20000 in
theorem gX11_readsGoer_X11_takesNumber : GoodIn wsX11_readsGoer (wsV RX11 140 RX11 yX11_takesNumber wsX11_takesNumber) := goodIn_app (goodIn_of _ (by decide +kernel)) ggX11_readsGoer_X11_takesNumber
theorem dX11_readsGoer_0 : decode cX11_readsGoer 0 = .ok (.aload_n 0, 1) := by decide +kernel
theorem dX11_readsGoer_1 : decode cX11_readsGoer 1 = .ok (.getfield 19, 3) := by decide +kernel
theorem dX11_readsGoer_4 : decode cX11_readsGoer 4 = .ok (.bipush 6, 2) := by decide +kernel
theorem dX11_readsGoer_6 : decode cX11_readsGoer 6 = .ok (.iaload, 1) := by decide +kernel
theorem dX11_readsGoer_7 : decode cX11_readsGoer 7 = .ok (.bipush 8, 2) := by decide +kernel
theorem dX11_readsGoer_9 : decode cX11_readsGoer 9 = .ok (.if_icmp .ne 5, 3) := by decide +kernel
theorem dX11_readsGoer_12 : decode cX11_readsGoer 12 = .ok (.iconst 0, 1) := by decide +kernel
theorem dX11_readsGoer_13 : decode cX11_readsGoer 13 = .ok (.ireturn, 1) := by decide +kernel
theorem dX11_readsGoer_14 : decode cX11_readsGoer 14 = .ok (.aload_n 0, 1) := by decide +kernel
theorem dX11_readsGoer_15 : decode cX11_readsGoer 15 = .ok (.invokevirtual 134, 3) := by decide +kernel
theorem dX11_readsGoer_18 : decode cX11_readsGoer 18 = .ok (.aload_n 0, 1) := by decide +kernel
theorem dX11_readsGoer_19 : decode cX11_readsGoer 19 = .ok (.bipush 12, 2) := by decide +kernel
theorem dX11_readsGoer_21 : decode cX11_readsGoer 21 = .ok (.invokevirtual 137, 3) := by decide +kernel
theorem dX11_readsGoer_24 : decode cX11_readsGoer 24 = .ok (.ifCond .ne 5, 3) := by decide +kernel
theorem dX11_readsGoer_27 : decode cX11_readsGoer 27 = .ok (.iconst 0, 1) := by decide +kernel
theorem dX11_readsGoer_28 : decode cX11_readsGoer 28 = .ok (.ireturn, 1) := by decide +kernel
theorem dX11_readsGoer_29 : decode cX11_readsGoer 29 = .ok (.aload_n 0, 1) := by decide +kernel
theorem dX11_readsGoer_30 : decode cX11_readsGoer 30 = .ok (.bipush 11, 2) := by decide +kernel
theorem dX11_readsGoer_32 : decode cX11_readsGoer 32 = .ok (.invokevirtual 140, 3) := by decide +kernel
theorem dX11_readsGoer_35 : decode cX11_readsGoer 35 = .ok (.istore_n 2, 1) := by decide +kernel
theorem dX11_readsGoer_36 : decode cX11_readsGoer 36 = .ok (.bipush 50, 2) := by decide +kernel
theorem dX11_readsGoer_38 : decode cX11_readsGoer 38 = .ok (.istore_n 3, 1) := by decide +kernel
theorem dX11_readsGoer_39 : decode cX11_readsGoer 39 = .ok (.iload_n 2, 1) := by decide +kernel
theorem dX11_readsGoer_40 : decode cX11_readsGoer 40 = .ok (.ifCond .lt 19, 3) := by decide +kernel
theorem dX11_readsGoer_43 : decode cX11_readsGoer 43 = .ok (.aload_n 0, 1) := by decide +kernel
theorem dX11_readsGoer_44 : decode cX11_readsGoer 44 = .ok (.bipush 14, 2) := by decide +kernel
theorem dX11_readsGoer_46 : decode cX11_readsGoer 46 = .ok (.invokevirtual 137, 3) := by decide +kernel
theorem dX11_readsGoer_49 : decode cX11_readsGoer 49 = .ok (.ifCond .eq 10, 3) := by decide +kernel
theorem dX11_readsGoer_52 : decode cX11_readsGoer 52 = .ok (.aload_n 0, 1) := by decide +kernel
theorem dX11_readsGoer_53 : decode cX11_readsGoer 53 = .ok (.bipush 99, 2) := by decide +kernel
theorem dX11_readsGoer_55 : decode cX11_readsGoer 55 = .ok (.invokevirtual 140, 3) := by decide +kernel
theorem dX11_readsGoer_58 : decode cX11_readsGoer 58 = .ok (.istore_n 3, 1) := by decide +kernel
theorem dX11_readsGoer_59 : decode cX11_readsGoer 59 = .ok (.bipush 19, 2) := by decide +kernel
theorem dX11_readsGoer_61 : decode cX11_readsGoer 61 = .ok (.iconst 4, 1) := by decide +kernel
theorem dX11_readsGoer_62 : decode cX11_readsGoer 62 = .ok (.aload_n 0, 1) := by decide +kernel
theorem dX11_readsGoer_63 : decode cX11_readsGoer 63 = .ok (.getfield 19, 3) := by decide +kernel
theorem dX11_readsGoer_66 : decode cX11_readsGoer 66 = .ok (.bipush 6, 2) := by decide +kernel
theorem dX11_readsGoer_68 : decode cX11_readsGoer 68 = .ok (.iaload, 1) := by decide +kernel
theorem dX11_readsGoer_69 : decode cX11_readsGoer 69 = .ok (.imul, 1) := by decide +kernel
theorem dX11_readsGoer_70 : decode cX11_readsGoer 70 = .ok (.iadd, 1) := by decide +kernel
theorem dX11_readsGoer_71 : decode cX11_readsGoer 71 = .ok (.istore 4, 2) := by decide +kernel
theorem dX11_readsGoer_73 : decode cX11_readsGoer 73 = .ok (.aload_n 0, 1) := by decide +kernel
theorem dX11_readsGoer_74 : decode cX11_readsGoer 74 = .ok (.getfield 19, 3) := by decide +kernel
theorem dX11_readsGoer_77 : decode cX11_readsGoer 77 = .ok (.iload 4, 2) := by decide +kernel
theorem dX11_readsGoer_79 : decode cX11_readsGoer 79 = .ok (.iload_n 1, 1) := by decide +kernel
theorem dX11_readsGoer_80 : decode cX11_readsGoer 80 = .ok (.iastore, 1) := by decide +kernel
theorem dX11_readsGoer_81 : decode cX11_readsGoer 81 = .ok (.aload_n 0, 1) := by decide +kernel
theorem dX11_readsGoer_82 : decode cX11_readsGoer 82 = .ok (.getfield 19, 3) := by decide +kernel
theorem dX11_readsGoer_85 : decode cX11_readsGoer 85 = .ok (.iload 4, 2) := by decide +kernel
theorem dX11_readsGoer_87 : decode cX11_readsGoer 87 = .ok (.iconst 1, 1) := by decide +kernel
theorem dX11_readsGoer_88 : decode cX11_readsGoer 88 = .ok (.iadd, 1) := by decide +kernel
theorem dX11_readsGoer_89 : decode cX11_readsGoer 89 = .ok (.iload_n 3, 1) := by decide +kernel
theorem dX11_readsGoer_90 : decode cX11_readsGoer 90 = .ok (.iastore, 1) := by decide +kernel
theorem dX11_readsGoer_91 : decode cX11_readsGoer 91 = .ok (.aload_n 0, 1) := by decide +kernel
theorem dX11_readsGoer_92 : decode cX11_readsGoer 92 = .ok (.getfield 19, 3) := by decide +kernel
theorem dX11_readsGoer_95 : decode cX11_readsGoer 95 = .ok (.iload 4, 2) := by decide +kernel
theorem dX11_readsGoer_97 : decode cX11_readsGoer 97 = .ok (.iconst 2, 1) := by decide +kernel
theorem dX11_readsGoer_98 : decode cX11_readsGoer 98 = .ok (.iadd, 1) := by decide +kernel
theorem dX11_readsGoer_99 : decode cX11_readsGoer 99 = .ok (.iload_n 2, 1) := by decide +kernel
theorem dX11_readsGoer_100 : decode cX11_readsGoer 100 = .ok (.iastore, 1) := by decide +kernel
theorem dX11_readsGoer_101 : decode cX11_readsGoer 101 = .ok (.aload_n 0, 1) := by decide +kernel
theorem dX11_readsGoer_102 : decode cX11_readsGoer 102 = .ok (.getfield 19, 3) := by decide +kernel
theorem dX11_readsGoer_105 : decode cX11_readsGoer 105 = .ok (.bipush 6, 2) := by decide +kernel
theorem dX11_readsGoer_107 : decode cX11_readsGoer 107 = .ok (.dup2, 1) := by decide +kernel
theorem dX11_readsGoer_108 : decode cX11_readsGoer 108 = .ok (.iaload, 1) := by decide +kernel
theorem dX11_readsGoer_109 : decode cX11_readsGoer 109 = .ok (.iconst 1, 1) := by decide +kernel
theorem dX11_readsGoer_110 : decode cX11_readsGoer 110 = .ok (.iadd, 1) := by decide +kernel
theorem dX11_readsGoer_111 : decode cX11_readsGoer 111 = .ok (.iastore, 1) := by decide +kernel
theorem dX11_readsGoer_112 : decode cX11_readsGoer 112 = .ok (.iload_n 2, 1) := by decide +kernel
theorem dX11_readsGoer_113 : decode cX11_readsGoer 113 = .ok (.ifCond .lt 11, 3) := by decide +kernel
theorem dX11_readsGoer_116 : decode cX11_readsGoer 116 = .ok (.iload_n 3, 1) := by decide +kernel
theorem dX11_readsGoer_117 : decode cX11_readsGoer 117 = .ok (.ifCond .lt 7, 3) := by decide +kernel
theorem dX11_readsGoer_120 : decode cX11_readsGoer 120 = .ok (.iconst 1, 1) := by decide +kernel
theorem dX11_readsGoer_121 : decode cX11_readsGoer 121 = .ok (.goto 4, 3) := by decide +kernel
theorem dX11_readsGoer_124 : decode cX11_readsGoer 124 = .ok (.iconst 0, 1) := by decide +kernel
theorem dX11_readsGoer_125 : decode cX11_readsGoer 125 = .ok (.ireturn, 1) := by decide +kernel
set_option maxRecDepth 20000 in
theorem ggX11_readsRest_X11_next : GoodIn wsX11_readsRest wsX11_next := goodIn_r _ [6, 7, 8, 9, 10, 11, 12, 5, 13, 14, 15, 16, 17, 18, 19, 20, 21, 22, 23, 24, 25, 26, 27, 28, 29, 30, 31, 32, 41, 42, 43, 44, 45, 46, 47, 48, 49, 50, 51, 52, 53, 54, 55, 56, 57, 58, 59, 60, 61, 62, 63, 64] (by decide +kernel) (by decide +kernel)
set_option maxRecDepth 20000 in
theorem gX11_readsRest_X11_next : GoodIn wsX11_readsRest (wsV RX11 134 RX11 yX11_next wsX11_next) := goodIn_app (goodIn_of _ (by decide +kernel)) ggX11_readsRest_X11_next
set_option maxRecDepth 20000 in
theorem ggX11_readsRest_X11_takesNumber : GoodIn wsX11_readsRest wsX11_takesNumber := goodIn_r _ [36, 9, 32, 2, 3, 4, 5, 6, 7, 8, 10, 11, 12, 13, 14, 15, 16, 17, 18, 19, 20, 21, 22, 23, 24, 25, 26, 27, 28, 29, 30, 31, 41, 42, 43, 44, 45, 46, 47, 48, 49, 50, 51, 52, 53, 54, 55, 56, 57, 58, 59, 60, 61, 62, 63, 64] (by decide +kernel) (by decide +kernel)
set_option maxRecDepth 20000 in
theorem gX11_readsRest_X11_takesNumber : GoodIn wsX11_readsRest (wsV RX11 140 RX11 yX11_takesNumber wsX11_takesNumber) := goodIn_app (goodIn_of _ (by decide +kernel)) ggX11_readsRest_X11_takesNumber
set_option maxRecDepth 20000 in
theorem ggX11_readsRest_X11_takes : GoodIn wsX11_readsRest wsX11_takes := goodIn_r _ [40, 9, 2, 3, 4, 5, 6, 7, 8, 10, 11, 12, 13, 14, 15, 16, 17, 18, 19, 20, 21, 22, 23, 24, 25, 26, 27, 28, 29, 30, 31, 32, 41, 42, 43, 44, 45, 46, 47, 48, 49, 50, 51, 52, 53, 54, 55, 56, 57, 58, 59, 60, 61, 62, 63, 64] (by decide +kernel) (by decide +kernel)
set_option maxRecDepth 20000 in
theorem gX11_readsRest_X11_takes : GoodIn wsX11_readsRest (wsV RX11 137 RX11 yX11_takes wsX11_takes) := goodIn_app (goodIn_of _ (by decide +kernel)) ggX11_readsRest_X11_takes
theorem dX11_readsRest_0 : decode cX11_readsRest 0 = .ok (.aload_n 0, 1) := by decide +kernel
theorem dX11_readsRest_1 : decode cX11_readsRest 1 = .ok (.invokevirtual 134, 3) := by decide +kernel
theorem dX11_readsRest_4 : decode cX11_readsRest 4 = .ok (.aload_n 0, 1) := by decide +kernel
theorem dX11_readsRest_5 : decode cX11_readsRest 5 = .ok (.iconst 5, 1) := by decide +kernel
theorem dX11_readsRest_6 : decode cX11_readsRest 6 = .ok (.invokevirtual 140, 3) := by decide +kernel
theorem dX11_readsRest_9 : decode cX11_readsRest 9 = .ok (.istore_n 2, 1) := by decide +kernel
theorem dX11_readsRest_10 : decode cX11_readsRest 10 = .ok (.iload_n 2, 1) := by decide +kernel
theorem dX11_readsRest_11 : decode cX11_readsRest 11 = .ok (.ifCond .lt 12, 3) := by decide +kernel
theorem dX11_readsRest_14 : decode cX11_readsRest 14 = .ok (.aload_n 0, 1) := by decide +kernel
theorem dX11_readsRest_15 : decode cX11_readsRest 15 = .ok (.bipush 13, 2) := by decide +kernel
theorem dX11_readsRest_17 : decode cX11_readsRest 17 = .ok (.invokevirtual 137, 3) := by decide +kernel
theorem dX11_readsRest_20 : decode cX11_readsRest 20 = .ok (.ifCond .ne 5, 3) := by decide +kernel
theorem dX11_readsRest_23 : decode cX11_readsRest 23 = .ok (.iconst 0, 1) := by decide +kernel
theorem dX11_readsRest_24 : decode cX11_readsRest 24 = .ok (.ireturn, 1) := by decide +kernel
theorem dX11_readsRest_25 : decode cX11_readsRest 25 = .ok (.aload_n 0, 1) := by decide +kernel
theorem dX11_readsRest_26 : decode cX11_readsRest 26 = .ok (.bipush 9, 2) := by decide +kernel
theorem dX11_readsRest_28 : decode cX11_readsRest 28 = .ok (.invokevirtual 140, 3) := by decide +kernel
theorem dX11_readsRest_31 : decode cX11_readsRest 31 = .ok (.istore_n 3, 1) := by decide +kernel
theorem dX11_readsRest_32 : decode cX11_readsRest 32 = .ok (.aload_n 0, 1) := by decide +kernel
theorem dX11_readsRest_33 : decode cX11_readsRest 33 = .ok (.getfield 19, 3) := by decide +kernel
theorem dX11_readsRest_36 : decode cX11_readsRest 36 = .ok (.iload_n 1, 1) := by decide +kernel
theorem dX11_readsRest_37 : decode cX11_readsRest 37 = .ok (.iload_n 2, 1) := by decide +kernel
theorem dX11_readsRest_38 : decode cX11_readsRest 38 = .ok (.iadd, 1) := by decide +kernel
theorem dX11_readsRest_39 : decode cX11_readsRest 39 = .ok (.iload_n 3, 1) := by decide +kernel
theorem dX11_readsRest_40 : decode cX11_readsRest 40 = .ok (.iastore, 1) := by decide +kernel
theorem dX11_readsRest_41 : decode cX11_readsRest 41 = .ok (.iload_n 3, 1) := by decide +kernel
theorem dX11_readsRest_42 : decode cX11_readsRest 42 = .ok (.ifCond .lt 7, 3) := by decide +kernel
theorem dX11_readsRest_45 : decode cX11_readsRest 45 = .ok (.iconst 1, 1) := by decide +kernel
theorem dX11_readsRest_46 : decode cX11_readsRest 46 = .ok (.goto 4, 3) := by decide +kernel
theorem dX11_readsRest_49 : decode cX11_readsRest 49 = .ok (.iconst 0, 1) := by decide +kernel
theorem dX11_readsRest_50 : decode cX11_readsRest 50 = .ok (.ireturn, 1) := by decide +kernel
set_option maxRecDepth 20000 in
theorem ggX11_readsLaw_X11_next : GoodIn wsX11_readsLaw wsX11_next := goodIn_r _ [6, 7, 8, 9, 10, 11, 12, 5, 13, 14, 15, 16, 17, 18, 19, 20, 21, 22, 23, 24, 25, 26, 27, 28, 29, 30, 31, 32, 37, 38, 39, 40, 41, 42, 43, 44, 45, 46, 47, 48, 49, 50, 51, 52, 53, 54, 55, 56, 57, 58, 59, 60] (by decide +kernel) (by decide +kernel)
set_option maxRecDepth 20000 in
theorem gX11_readsLaw_X11_next : GoodIn wsX11_readsLaw (wsV RX11 134 RX11 yX11_next wsX11_next) := goodIn_app (goodIn_of _ (by decide +kernel)) ggX11_readsLaw_X11_next
set_option maxRecDepth 20000 in
theorem ggX11_readsLaw_X11_takesNumber : GoodIn wsX11_readsLaw wsX11_takesNumber := goodIn_r _ [36, 9, 32, 2, 3, 4, 5, 6, 7, 8, 10, 11, 12, 13, 14, 15, 16, 17, 18, 19, 20, 21, 22, 23, 24, 25, 26, 27, 28, 29, 30, 31, 37, 38, 39, 40, 41, 42, 43, 44, 45, 46, 47, 48, 49, 50, 51, 52, 53, 54, 55, 56, 57, 58, 59, 60] (by decide +kernel) (by decide +kernel)
set_option maxRecDepth 20000 in
theorem gX11_readsLaw_X11_takesNumber : GoodIn wsX11_readsLaw (wsV RX11 140 RX11 yX11_takesNumber wsX11_takesNumber) := goodIn_app (goodIn_of _ (by decide +kernel)) ggX11_readsLaw_X11_takesNumber
theorem dX11_readsLaw_0 : decode cX11_readsLaw 0 = .ok (.aload_n 0, 1) := by decide +kernel
theorem dX11_readsLaw_1 : decode cX11_readsLaw 1 = .ok (.invokevirtual 134, 3) := by decide +kernel
theorem dX11_readsLaw_4 : decode cX11_readsLaw 4 = .ok (.aload_n 0, 1) := by decide +kernel
theorem dX11_readsLaw_5 : decode cX11_readsLaw 5 = .ok (.iload_n 1, 1) := by decide +kernel
theorem dX11_readsLaw_6 : decode cX11_readsLaw 6 = .ok (.iconst 1, 1) := by decide +kernel
theorem dX11_readsLaw_7 : decode cX11_readsLaw 7 = .ok (.if_icmp .ne 8, 3) := by decide +kernel
theorem dX11_readsLaw_10 : decode cX11_readsLaw 10 = .ok (.bipush 9, 2) := by decide +kernel
theorem dX11_readsLaw_12 : decode cX11_readsLaw 12 = .ok (.goto 5, 3) := by decide +kernel
theorem dX11_readsLaw_15 : decode cX11_readsLaw 15 = .ok (.bipush 99, 2) := by decide +kernel
theorem dX11_readsLaw_17 : decode cX11_readsLaw 17 = .ok (.invokevirtual 140, 3) := by decide +kernel
theorem dX11_readsLaw_20 : decode cX11_readsLaw 20 = .ok (.istore_n 2, 1) := by decide +kernel
theorem dX11_readsLaw_21 : decode cX11_readsLaw 21 = .ok (.aload_n 0, 1) := by decide +kernel
theorem dX11_readsLaw_22 : decode cX11_readsLaw 22 = .ok (.getfield 19, 3) := by decide +kernel
theorem dX11_readsLaw_25 : decode cX11_readsLaw 25 = .ok (.iload_n 1, 1) := by decide +kernel
theorem dX11_readsLaw_26 : decode cX11_readsLaw 26 = .ok (.iload_n 2, 1) := by decide +kernel
theorem dX11_readsLaw_27 : decode cX11_readsLaw 27 = .ok (.iastore, 1) := by decide +kernel
theorem dX11_readsLaw_28 : decode cX11_readsLaw 28 = .ok (.iload_n 2, 1) := by decide +kernel
theorem dX11_readsLaw_29 : decode cX11_readsLaw 29 = .ok (.ifCond .lt 7, 3) := by decide +kernel
theorem dX11_readsLaw_32 : decode cX11_readsLaw 32 = .ok (.iconst 1, 1) := by decide +kernel
theorem dX11_readsLaw_33 : decode cX11_readsLaw 33 = .ok (.goto 4, 3) := by decide +kernel
theorem dX11_readsLaw_36 : decode cX11_readsLaw 36 = .ok (.iconst 0, 1) := by decide +kernel
theorem dX11_readsLaw_37 : decode cX11_readsLaw 37 = .ok (.ireturn, 1) := by decide +kernel
set_option maxRecDepth 20000 in
theorem ggX11_readsOne_X11_in1 : GoodIn wsX11_readsOne wsX11_in1 := goodIn_r _ [5] (by decide +kernel) (by decide +kernel)
set_option maxRecDepth 20000 in
theorem gX11_readsOne_X11_in1 : GoodIn wsX11_readsOne (va_wsS RX11 57 yX11_in1 wsX11_in1) := goodIn_app (goodIn_of _ (by decide +kernel)) ggX11_readsOne_X11_in1
set_option maxRecDepth 20000 in
theorem ggX11_readsOne_X11_readsGoer : GoodIn wsX11_readsOne wsX11_readsGoer := goodIn_r _ [9, 10, 11, 12, 13, 4, 14, 15, 16, 1, 17, 18, 19, 20, 21, 22, 2, 3, 5, 23, 24, 25, 26, 27, 28, 29, 30, 31, 32, 33, 34, 35, 36, 37, 38, 39, 40, 41, 42, 43, 44, 53, 54, 55, 56, 57, 58, 59, 60, 61, 62, 63, 64, 65, 66, 67, 68, 69, 70, 71, 72, 73, 74, 75, 76] (by decide +kernel) (by decide +kernel)
set_option maxRecDepth 20000 in
theorem gX11_readsOne_X11_readsGoer : GoodIn wsX11_readsOne (wsV RX11 143 RX11 yX11_readsGoer wsX11_readsGoer) := goodIn_app (goodIn_of _ (by decide +kernel)) ggX11_readsOne_X11_readsGoer
set_option maxRecDepth 20000 in
theorem ggX11_readsOne_X11_readsRest : GoodIn wsX11_readsOne wsX11_readsRest := goodIn_r _ [48, 10, 11, 12, 13, 4, 14, 15, 16, 1, 17, 18, 19, 20, 21, 22, 2, 3, 5, 23, 24, 25, 26, 27, 28, 29, 30, 31, 32, 33, 34, 35, 36, 41, 42, 43, 44, 37, 38, 39, 40, 53, 54, 55, 56, 57, 58, 59, 60, 61, 62, 63, 64, 65, 66, 67, 68, 69, 70, 71, 72, 73, 74, 75, 76] (by decide +kernel) (by decide +kernel)
set_option maxRecDepth 20000 in
theorem gX11_readsOne_X11_readsRest : GoodIn wsX11_readsOne (wsV RX11 146 RX11 yX11_readsRest wsX11_readsRest) := goodIn_app (goodIn_of _ (by decide +kernel)) ggX11_readsOne_X11_readsRest
set_option maxRecDepth 20000 in
theorem ggX11_readsOne_X11_readsLaw : GoodIn wsX11_readsOne wsX11_readsLaw := goodIn_r _ [52, 10, 11, 12, 13, 4, 14, 15, 16, 1, 17, 18, 19, 20, 21, 22, 2, 3, 5, 23, 24, 25, 26, 27, 28, 29, 30, 31, 32, 33, 34, 35, 36, 41, 42, 43, 44, 53, 54, 55, 56, 57, 58, 59, 60, 61, 62, 63, 64, 65, 66, 67, 68, 69, 70, 71, 72, 73, 74, 75, 76] (by decide +kernel) (by decide +kernel)
set_option maxRecDepth 20000 in
theorem gX11_readsOne_X11_readsLaw : GoodIn wsX11_readsOne (wsV RX11 149 RX11 yX11_readsLaw wsX11_readsLaw) := goodIn_app (goodIn_of _ (by decide +kernel)) ggX11_readsOne_X11_readsLaw
set_option maxRecDepth 20000 in
theorem ggX11_readsOne_X11_takes : GoodIn wsX11_readsOne wsX11_takes := goodIn_r _ [40, 1, 11, 12, 13, 4, 14, 15, 16, 17, 18, 19, 20, 21, 22, 2, 3, 5, 23, 24, 25, 26, 27, 28, 29, 30, 31, 32, 33, 34, 35, 36, 53, 54, 55, 56, 57, 58, 59, 60, 61, 62, 63, 64, 65, 66, 67, 68, 69, 70, 71, 72, 73, 74, 75, 76] (by decide +kernel) (by decide +kernel)
set_option maxRecDepth 20000 in
theorem gX11_readsOne_X11_takes : GoodIn wsX11_readsOne (wsV RX11 137 RX11 yX11_takes wsX11_takes) := goodIn_app (goodIn_of _ (by decide +kernel)) ggX11_readsOne_X11_takes
theorem dX11_readsOne_0 : decode cX11_readsOne 0 = .ok (.iconst 0, 1) := by decide +kernel
theorem dX11_readsOne_1 : decode cX11_readsOne 1 = .ok (.istore_n 1, 1) := by decide +kernel
theorem dX11_readsOne_2 : decode cX11_readsOne 2 = .ok (.aload_n 0, 1) := by decide +kernel
theorem dX11_readsOne_3 : decode cX11_readsOne 3 = .ok (.getfield 119, 3) := by decide +kernel
theorem dX11_readsOne_6 : decode cX11_readsOne 6 = .ok (.iconst 0, 1) := by decide +kernel
theorem dX11_readsOne_7 : decode cX11_readsOne 7 = .ok (.iconst 5, 1) := by decide +kernel
theorem dX11_readsOne_8 : decode cX11_readsOne 8 = .ok (.invokestatic 57, 3) := by decide +kernel
theorem dX11_readsOne_11 : decode cX11_readsOne 11 = .ok (.ifCond .eq 15, 3) := by decide +kernel
theorem dX11_readsOne_14 : decode cX11_readsOne 14 = .ok (.aload_n 0, 1) := by decide +kernel
theorem dX11_readsOne_15 : decode cX11_readsOne 15 = .ok (.aload_n 0, 1) := by decide +kernel
theorem dX11_readsOne_16 : decode cX11_readsOne 16 = .ok (.getfield 119, 3) := by decide +kernel
theorem dX11_readsOne_19 : decode cX11_readsOne 19 = .ok (.invokevirtual 143, 3) := by decide +kernel
theorem dX11_readsOne_22 : decode cX11_readsOne 22 = .ok (.istore_n 1, 1) := by decide +kernel
theorem dX11_readsOne_23 : decode cX11_readsOne 23 = .ok (.goto 69, 3) := by decide +kernel
theorem dX11_readsOne_26 : decode cX11_readsOne 26 = .ok (.aload_n 0, 1) := by decide +kernel
theorem dX11_readsOne_27 : decode cX11_readsOne 27 = .ok (.getfield 119, 3) := by decide +kernel
theorem dX11_readsOne_30 : decode cX11_readsOne 30 = .ok (.bipush 6, 2) := by decide +kernel
theorem dX11_readsOne_32 : decode cX11_readsOne 32 = .ok (.bipush 7, 2) := by decide +kernel
theorem dX11_readsOne_34 : decode cX11_readsOne 34 = .ok (.invokestatic 57, 3) := by decide +kernel
theorem dX11_readsOne_37 : decode cX11_readsOne 37 = .ok (.ifCond .eq 27, 3) := by decide +kernel
theorem dX11_readsOne_40 : decode cX11_readsOne 40 = .ok (.aload_n 0, 1) := by decide +kernel
theorem dX11_readsOne_41 : decode cX11_readsOne 41 = .ok (.aload_n 0, 1) := by decide +kernel
theorem dX11_readsOne_42 : decode cX11_readsOne 42 = .ok (.getfield 119, 3) := by decide +kernel
theorem dX11_readsOne_45 : decode cX11_readsOne 45 = .ok (.bipush 6, 2) := by decide +kernel
theorem dX11_readsOne_47 : decode cX11_readsOne 47 = .ok (.if_icmp .ne 8, 3) := by decide +kernel
theorem dX11_readsOne_50 : decode cX11_readsOne 50 = .ok (.bipush 7, 2) := by decide +kernel
theorem dX11_readsOne_52 : decode cX11_readsOne 52 = .ok (.goto 5, 3) := by decide +kernel
theorem dX11_readsOne_55 : decode cX11_readsOne 55 = .ok (.bipush 13, 2) := by decide +kernel
theorem dX11_readsOne_57 : decode cX11_readsOne 57 = .ok (.invokevirtual 146, 3) := by decide +kernel
theorem dX11_readsOne_60 : decode cX11_readsOne 60 = .ok (.istore_n 1, 1) := by decide +kernel
theorem dX11_readsOne_61 : decode cX11_readsOne 61 = .ok (.goto 31, 3) := by decide +kernel
theorem dX11_readsOne_64 : decode cX11_readsOne 64 = .ok (.aload_n 0, 1) := by decide +kernel
theorem dX11_readsOne_65 : decode cX11_readsOne 65 = .ok (.getfield 119, 3) := by decide +kernel
theorem dX11_readsOne_68 : decode cX11_readsOne 68 = .ok (.bipush 8, 2) := by decide +kernel
theorem dX11_readsOne_70 : decode cX11_readsOne 70 = .ok (.bipush 11, 2) := by decide +kernel
theorem dX11_readsOne_72 : decode cX11_readsOne 72 = .ok (.invokestatic 57, 3) := by decide +kernel
theorem dX11_readsOne_75 : decode cX11_readsOne 75 = .ok (.ifCond .eq 17, 3) := by decide +kernel
theorem dX11_readsOne_78 : decode cX11_readsOne 78 = .ok (.aload_n 0, 1) := by decide +kernel
theorem dX11_readsOne_79 : decode cX11_readsOne 79 = .ok (.aload_n 0, 1) := by decide +kernel
theorem dX11_readsOne_80 : decode cX11_readsOne 80 = .ok (.getfield 119, 3) := by decide +kernel
theorem dX11_readsOne_83 : decode cX11_readsOne 83 = .ok (.bipush 8, 2) := by decide +kernel
theorem dX11_readsOne_85 : decode cX11_readsOne 85 = .ok (.isub, 1) := by decide +kernel
theorem dX11_readsOne_86 : decode cX11_readsOne 86 = .ok (.iconst 1, 1) := by decide +kernel
theorem dX11_readsOne_87 : decode cX11_readsOne 87 = .ok (.iadd, 1) := by decide +kernel
theorem dX11_readsOne_88 : decode cX11_readsOne 88 = .ok (.invokevirtual 149, 3) := by decide +kernel
theorem dX11_readsOne_91 : decode cX11_readsOne 91 = .ok (.istore_n 1, 1) := by decide +kernel
theorem dX11_readsOne_92 : decode cX11_readsOne 92 = .ok (.iload_n 1, 1) := by decide +kernel
theorem dX11_readsOne_93 : decode cX11_readsOne 93 = .ok (.ifCond .eq 17, 3) := by decide +kernel
theorem dX11_readsOne_96 : decode cX11_readsOne 96 = .ok (.aload_n 0, 1) := by decide +kernel
theorem dX11_readsOne_97 : decode cX11_readsOne 97 = .ok (.sipush 259, 3) := by decide +kernel
theorem dX11_readsOne_100 : decode cX11_readsOne 100 = .ok (.invokevirtual 137, 3) := by decide +kernel
theorem dX11_readsOne_103 : decode cX11_readsOne 103 = .ok (.ifCond .eq 7, 3) := by decide +kernel
theorem dX11_readsOne_106 : decode cX11_readsOne 106 = .ok (.iconst 1, 1) := by decide +kernel
theorem dX11_readsOne_107 : decode cX11_readsOne 107 = .ok (.goto 4, 3) := by decide +kernel
theorem dX11_readsOne_110 : decode cX11_readsOne 110 = .ok (.iconst 0, 1) := by decide +kernel
theorem dX11_readsOne_111 : decode cX11_readsOne 111 = .ok (.ireturn, 1) := by decide +kernel
set_option maxRecDepth 20000 in
theorem ggX11_feed_X11_in1 : GoodIn wsX11_feed wsX11_in1 := goodIn_r _ [7] (by decide +kernel) (by decide +kernel)
set_option maxRecDepth 20000 in
theorem gX11_feed_X11_in1 : GoodIn wsX11_feed (va_wsS RX11 57 yX11_in1 wsX11_in1) := goodIn_app (goodIn_of _ (by decide +kernel)) ggX11_feed_X11_in1
theorem dX11_feed_0 : decode cX11_feed 0 = .ok (.iload_n 3, 1) := by decide +kernel
theorem dX11_feed_1 : decode cX11_feed 1 = .ok (.iconst 1, 1) := by decide +kernel
theorem dX11_feed_2 : decode cX11_feed 2 = .ok (.bipush 8, 2) := by decide +kernel
theorem dX11_feed_4 : decode cX11_feed 4 = .ok (.invokestatic 57, 3) := by decide +kernel
theorem dX11_feed_7 : decode cX11_feed 7 = .ok (.ifCond .ne 5, 3) := by decide +kernel
theorem dX11_feed_10 : decode cX11_feed 10 = .ok (.iconst (-1), 1) := by decide +kernel
theorem dX11_feed_11 : decode cX11_feed 11 = .ok (.ireturn, 1) := by decide +kernel
theorem dX11_feed_12 : decode cX11_feed 12 = .ok (.aload_n 0, 1) := by decide +kernel
theorem dX11_feed_13 : decode cX11_feed 13 = .ok (.getfield 106, 3) := by decide +kernel
theorem dX11_feed_16 : decode cX11_feed 16 = .ok (.iload_n 3, 1) := by decide +kernel
theorem dX11_feed_17 : decode cX11_feed 17 = .ok (.iadd, 1) := by decide +kernel
theorem dX11_feed_18 : decode cX11_feed 18 = .ok (.sipush 200, 3) := by decide +kernel
theorem dX11_feed_21 : decode cX11_feed 21 = .ok (.if_icmp .le 6, 3) := by decide +kernel
theorem dX11_feed_24 : decode cX11_feed 24 = .ok (.bipush (-2), 2) := by decide +kernel
theorem dX11_feed_26 : decode cX11_feed 26 = .ok (.ireturn, 1) := by decide +kernel
theorem dX11_feed_27 : decode cX11_feed 27 = .ok (.iconst 0, 1) := by decide +kernel
theorem dX11_feed_28 : decode cX11_feed 28 = .ok (.istore 4, 2) := by decide +kernel
theorem dX11_feed_30 : decode cX11_feed 30 = .ok (.iload 4, 2) := by decide +kernel
theorem dX11_feed_32 : decode cX11_feed 32 = .ok (.iload_n 3, 1) := by decide +kernel
theorem dX11_feed_33 : decode cX11_feed 33 = .ok (.if_icmp .ge 40, 3) := by decide +kernel
theorem dX11_feed_36 : decode cX11_feed 36 = .ok (.aload_n 0, 1) := by decide +kernel
theorem dX11_feed_37 : decode cX11_feed 37 = .ok (.getfield 25, 3) := by decide +kernel
theorem dX11_feed_40 : decode cX11_feed 40 = .ok (.aload_n 0, 1) := by decide +kernel
theorem dX11_feed_41 : decode cX11_feed 41 = .ok (.getfield 106, 3) := by decide +kernel
theorem dX11_feed_44 : decode cX11_feed 44 = .ok (.lload_n 1, 1) := by decide +kernel
theorem dX11_feed_45 : decode cX11_feed 45 = .ok (.bipush 8, 2) := by decide +kernel
theorem dX11_feed_47 : decode cX11_feed 47 = .ok (.iload 4, 2) := by decide +kernel
theorem dX11_feed_49 : decode cX11_feed 49 = .ok (.imul, 1) := by decide +kernel
theorem dX11_feed_50 : decode cX11_feed 50 = .ok (.lshr, 1) := by decide +kernel
theorem dX11_feed_51 : decode cX11_feed 51 = .ok (.ldc2_w 152, 3) := by decide +kernel
theorem dX11_feed_54 : decode cX11_feed 54 = .ok (.land, 1) := by decide +kernel
theorem dX11_feed_55 : decode cX11_feed 55 = .ok (.l2i, 1) := by decide +kernel
theorem dX11_feed_56 : decode cX11_feed 56 = .ok (.iastore, 1) := by decide +kernel
theorem dX11_feed_57 : decode cX11_feed 57 = .ok (.aload_n 0, 1) := by decide +kernel
theorem dX11_feed_58 : decode cX11_feed 58 = .ok (.dup, 1) := by decide +kernel
theorem dX11_feed_59 : decode cX11_feed 59 = .ok (.getfield 106, 3) := by decide +kernel
theorem dX11_feed_62 : decode cX11_feed 62 = .ok (.iconst 1, 1) := by decide +kernel
theorem dX11_feed_63 : decode cX11_feed 63 = .ok (.iadd, 1) := by decide +kernel
theorem dX11_feed_64 : decode cX11_feed 64 = .ok (.putfield 106, 3) := by decide +kernel
theorem dX11_feed_67 : decode cX11_feed 67 = .ok (.iinc 4 1, 3) := by decide +kernel
theorem dX11_feed_70 : decode cX11_feed 70 = .ok (.goto (-40), 3) := by decide +kernel
theorem dX11_feed_73 : decode cX11_feed 73 = .ok (.aload_n 0, 1) := by decide +kernel
theorem dX11_feed_74 : decode cX11_feed 74 = .ok (.getfield 106, 3) := by decide +kernel
theorem dX11_feed_77 : decode cX11_feed 77 = .ok (.ireturn, 1) := by decide +kernel
set_option maxRecDepth 20000 in
theorem ggX11_tunnel_X11_begins : GoodIn wsX11_tunnel wsX11_begins := goodIn_r _ [11] (by decide +kernel) (by decide +kernel)
set_option maxRecDepth 20000 in
theorem gX11_tunnel_X11_begins : GoodIn wsX11_tunnel (va_wsS RX11 53 yX11_begins wsX11_begins) := goodIn_app (goodIn_of _ (by decide +kernel)) ggX11_tunnel_X11_begins
set_option maxRecDepth 20000 in
theorem ggX11_tunnel_X11_next : GoodIn wsX11_tunnel wsX11_next := goodIn_r _ [15, 1, 6, 4, 16, 17, 18, 10, 19, 5, 20, 21, 22, 23, 24, 25, 26, 27, 28, 29, 30, 31, 32, 33, 34, 35, 36, 37, 65, 66, 67, 68, 69, 70, 71, 72, 73, 74, 75, 76, 77, 78, 79, 80, 81, 82, 83, 84, 85, 86, 87, 88] (by decide +kernel) (by decide +kernel)
set_option maxRecDepth 20000 in
theorem gX11_tunnel_X11_next : GoodIn wsX11_tunnel (wsV RX11 134 RX11 yX11_next wsX11_next) := goodIn_app (goodIn_of _ (by decide +kernel)) ggX11_tunnel_X11_next
set_option maxRecDepth 20000 in
theorem ggX11_tunnel_X11_readsOne : GoodIn wsX11_tunnel wsX11_readsOne := goodIn_r _ [41, 4, 21, 22, 10, 23, 42, 43, 44, 45, 2, 12, 13, 14, 15, 1, 6, 16, 17, 18, 19, 5, 20, 24, 25, 26, 27, 28, 29, 30, 31, 32, 33, 34, 35, 36, 37, 46, 47, 48, 49, 50, 51, 52, 53, 54, 55, 56, 57, 58, 59, 60, 61, 65, 66, 67, 68, 69, 70, 71, 72, 73, 74, 75, 76, 77, 78, 79, 80, 81, 82, 83, 84, 85, 86, 87, 88] (by decide +kernel) (by decide +kernel)
set_option maxRecDepth 20000 in
theorem gX11_tunnel_X11_readsOne : GoodIn wsX11_tunnel (wsV RX11 154 RX11 yX11_readsOne wsX11_readsOne) := goodIn_app (goodIn_of _ (by decide +kernel)) ggX11_tunnel_X11_readsOne
set_option maxRecDepth 20000 in
theorem ggX11_tunnel_X11_copies : GoodIn wsX11_tunnel wsX11_copies := goodIn_r _ [64] (by decide +kernel) (by decide +kernel)
set_option maxRecDepth 20000 in
theorem gX11_tunnel_X11_copies : GoodIn wsX11_tunnel (va_wsS RX11 158 yX11_copies wsX11_copies) := goodIn_app (goodIn_of _ (by decide +kernel)) ggX11_tunnel_X11_copies
theorem dX11_tunnel_0 : decode cX11_tunnel 0 = .ok (.aload_n 0, 1) := by decide +kernel
theorem dX11_tunnel_1 : decode cX11_tunnel 1 = .ok (.iconst 0, 1) := by decide +kernel
theorem dX11_tunnel_2 : decode cX11_tunnel 2 = .ok (.putfield 110, 3) := by decide +kernel
theorem dX11_tunnel_5 : decode cX11_tunnel 5 = .ok (.aload_n 0, 1) := by decide +kernel
theorem dX11_tunnel_6 : decode cX11_tunnel 6 = .ok (.getfield 19, 3) := by decide +kernel
theorem dX11_tunnel_9 : decode cX11_tunnel 9 = .ok (.invokestatic 53, 3) := by decide +kernel
theorem dX11_tunnel_12 : decode cX11_tunnel 12 = .ok (.aload_n 0, 1) := by decide +kernel
theorem dX11_tunnel_13 : decode cX11_tunnel 13 = .ok (.getfield 19, 3) := by decide +kernel
theorem dX11_tunnel_16 : decode cX11_tunnel 16 = .ok (.iconst 5, 1) := by decide +kernel
theorem dX11_tunnel_17 : decode cX11_tunnel 17 = .ok (.aload_n 0, 1) := by decide +kernel
theorem dX11_tunnel_18 : decode cX11_tunnel 18 = .ok (.getfield 9, 3) := by decide +kernel
theorem dX11_tunnel_21 : decode cX11_tunnel 21 = .ok (.iconst 5, 1) := by decide +kernel
theorem dX11_tunnel_22 : decode cX11_tunnel 22 = .ok (.iaload, 1) := by decide +kernel
theorem dX11_tunnel_23 : decode cX11_tunnel 23 = .ok (.iastore, 1) := by decide +kernel
theorem dX11_tunnel_24 : decode cX11_tunnel 24 = .ok (.aload_n 0, 1) := by decide +kernel
theorem dX11_tunnel_25 : decode cX11_tunnel 25 = .ok (.invokevirtual 134, 3) := by decide +kernel
theorem dX11_tunnel_28 : decode cX11_tunnel 28 = .ok (.iconst 1, 1) := by decide +kernel
theorem dX11_tunnel_29 : decode cX11_tunnel 29 = .ok (.istore_n 1, 1) := by decide +kernel
theorem dX11_tunnel_30 : decode cX11_tunnel 30 = .ok (.iload_n 1, 1) := by decide +kernel
theorem dX11_tunnel_31 : decode cX11_tunnel 31 = .ok (.ifCond .eq 19, 3) := by decide +kernel
theorem dX11_tunnel_34 : decode cX11_tunnel 34 = .ok (.aload_n 0, 1) := by decide +kernel
theorem dX11_tunnel_35 : decode cX11_tunnel 35 = .ok (.getfield 119, 3) := by decide +kernel
theorem dX11_tunnel_38 : decode cX11_tunnel 38 = .ok (.iconst (-1), 1) := by decide +kernel
theorem dX11_tunnel_39 : decode cX11_tunnel 39 = .ok (.if_icmp .eq 11, 3) := by decide +kernel
theorem dX11_tunnel_42 : decode cX11_tunnel 42 = .ok (.aload_n 0, 1) := by decide +kernel
theorem dX11_tunnel_43 : decode cX11_tunnel 43 = .ok (.invokevirtual 154, 3) := by decide +kernel
theorem dX11_tunnel_46 : decode cX11_tunnel 46 = .ok (.istore_n 1, 1) := by decide +kernel
theorem dX11_tunnel_47 : decode cX11_tunnel 47 = .ok (.goto (-17), 3) := by decide +kernel
theorem dX11_tunnel_50 : decode cX11_tunnel 50 = .ok (.aload_n 0, 1) := by decide +kernel
theorem dX11_tunnel_51 : decode cX11_tunnel 51 = .ok (.iconst 0, 1) := by decide +kernel
theorem dX11_tunnel_52 : decode cX11_tunnel 52 = .ok (.putfield 106, 3) := by decide +kernel
theorem dX11_tunnel_55 : decode cX11_tunnel 55 = .ok (.iload_n 1, 1) := by decide +kernel
theorem dX11_tunnel_56 : decode cX11_tunnel 56 = .ok (.ifCond .ne 11, 3) := by decide +kernel
theorem dX11_tunnel_59 : decode cX11_tunnel 59 = .ok (.bipush (-100), 2) := by decide +kernel
theorem dX11_tunnel_61 : decode cX11_tunnel 61 = .ok (.aload_n 0, 1) := by decide +kernel
theorem dX11_tunnel_62 : decode cX11_tunnel 62 = .ok (.getfield 113, 3) := by decide +kernel
theorem dX11_tunnel_65 : decode cX11_tunnel 65 = .ok (.isub, 1) := by decide +kernel
theorem dX11_tunnel_66 : decode cX11_tunnel 66 = .ok (.ireturn, 1) := by decide +kernel
theorem dX11_tunnel_67 : decode cX11_tunnel 67 = .ok (.aload_n 0, 1) := by decide +kernel
theorem dX11_tunnel_68 : decode cX11_tunnel 68 = .ok (.getfield 19, 3) := by decide +kernel
theorem dX11_tunnel_71 : decode cX11_tunnel 71 = .ok (.aload_n 0, 1) := by decide +kernel
theorem dX11_tunnel_72 : decode cX11_tunnel 72 = .ok (.getfield 9, 3) := by decide +kernel
theorem dX11_tunnel_75 : decode cX11_tunnel 75 = .ok (.invokestatic 158, 3) := by decide +kernel
theorem dX11_tunnel_78 : decode cX11_tunnel 78 = .ok (.aload_n 0, 1) := by decide +kernel
theorem dX11_tunnel_79 : decode cX11_tunnel 79 = .ok (.iconst 0, 1) := by decide +kernel
theorem dX11_tunnel_80 : decode cX11_tunnel 80 = .ok (.putfield 162, 3) := by decide +kernel
theorem dX11_tunnel_83 : decode cX11_tunnel 83 = .ok (.aload_n 0, 1) := by decide +kernel
theorem dX11_tunnel_84 : decode cX11_tunnel 84 = .ok (.getfield 9, 3) := by decide +kernel
theorem dX11_tunnel_87 : decode cX11_tunnel 87 = .ok (.bipush 6, 2) := by decide +kernel
theorem dX11_tunnel_89 : decode cX11_tunnel 89 = .ok (.iaload, 1) := by decide +kernel
theorem dX11_tunnel_90 : decode cX11_tunnel 90 = .ok (.ireturn, 1) := by decide +kernel
set_option maxRecDepth 20000 in
theorem ggX11_isLaw_X11_in1 : GoodIn wsX11_isLaw wsX11_in1 := goodIn_r _ [4] (by decide +kernel) (by decide +kernel)
set_option maxRecDepth 20000 in
theorem gX11_isLaw_X11_in1 : GoodIn wsX11_isLaw (va_wsS RX11 57 yX11_in1 wsX11_in1) := goodIn_app (goodIn_of _ (by decide +kernel)) ggX11_isLaw_X11_in1
theorem dX11_isLaw_0 : decode cX11_isLaw 0 = .ok (.iload_n 0, 1) := by decide +kernel
theorem dX11_isLaw_1 : decode cX11_isLaw 1 = .ok (.iconst 0, 1) := by decide +kernel
theorem dX11_isLaw_2 : decode cX11_isLaw 2 = .ok (.iconst 3, 1) := by decide +kernel
theorem dX11_isLaw_3 : decode cX11_isLaw 3 = .ok (.invokestatic 57, 3) := by decide +kernel
theorem dX11_isLaw_6 : decode cX11_isLaw 6 = .ok (.ireturn, 1) := by decide +kernel
set_option maxRecDepth 20000 in
theorem ggX11_set_X11_isLaw : GoodIn wsX11_set wsX11_isLaw := goodIn_r _ [4, 5, 6, 3, 7] (by decide +kernel) (by decide +kernel)
set_option maxRecDepth 20000 in
theorem gX11_set_X11_isLaw : GoodIn wsX11_set (va_wsS RX11 165 yX11_isLaw wsX11_isLaw) := goodIn_app (goodIn_of _ (by decide +kernel)) ggX11_set_X11_isLaw
set_option maxRecDepth 20000 in
theorem ggX11_set_X11_in1 : GoodIn wsX11_set wsX11_in1 := goodIn_r _ [7] (by decide +kernel) (by decide +kernel)
set_option maxRecDepth 20000 in
theorem gX11_set_X11_in1 : GoodIn wsX11_set (va_wsS RX11 57 yX11_in1 wsX11_in1) := goodIn_app (goodIn_of _ (by decide +kernel)) ggX11_set_X11_in1
set_option maxRecDepth 20000 in
theorem ggX11_set_X11_becomes : GoodIn wsX11_set wsX11_becomes := goodIn_r _ [11, 12, 13, 14, 15, 16, 17, 18, 19, 20, 21, 22, 23, 24, 25, 26, 27, 28, 29, 30, 31, 32, 33, 34, 35, 36] (by decide +kernel) (by decide +kernel)
set_option maxRecDepth 20000 in
theorem gX11_set_X11_becomes : GoodIn wsX11_set (wsV RX11 168 RX11 yX11_becomes wsX11_becomes) := goodIn_app (goodIn_of _ (by decide +kernel)) ggX11_set_X11_becomes
theorem dX11_set_0 : decode cX11_set 0 = .ok (.iload_n 1, 1) := by decide +kernel
theorem dX11_set_1 : decode cX11_set 1 = .ok (.invokestatic 165, 3) := by decide +kernel
theorem dX11_set_4 : decode cX11_set 4 = .ok (.ifCond .eq 33, 3) := by decide +kernel
theorem dX11_set_7 : decode cX11_set 7 = .ok (.iload_n 2, 1) := by decide +kernel
theorem dX11_set_8 : decode cX11_set 8 = .ok (.iconst 0, 1) := by decide +kernel
theorem dX11_set_9 : decode cX11_set 9 = .ok (.iload_n 1, 1) := by decide +kernel
theorem dX11_set_10 : decode cX11_set 10 = .ok (.ifCond .ne 8, 3) := by decide +kernel
theorem dX11_set_13 : decode cX11_set 13 = .ok (.bipush 9, 2) := by decide +kernel
theorem dX11_set_15 : decode cX11_set 15 = .ok (.goto 5, 3) := by decide +kernel
theorem dX11_set_18 : decode cX11_set 18 = .ok (.bipush 99, 2) := by decide +kernel
theorem dX11_set_20 : decode cX11_set 20 = .ok (.invokestatic 57, 3) := by decide +kernel
theorem dX11_set_23 : decode cX11_set 23 = .ok (.ifCond .eq 14, 3) := by decide +kernel
theorem dX11_set_26 : decode cX11_set 26 = .ok (.aload_n 0, 1) := by decide +kernel
theorem dX11_set_27 : decode cX11_set 27 = .ok (.iconst 1, 1) := by decide +kernel
theorem dX11_set_28 : decode cX11_set 28 = .ok (.iload_n 1, 1) := by decide +kernel
theorem dX11_set_29 : decode cX11_set 29 = .ok (.iadd, 1) := by decide +kernel
theorem dX11_set_30 : decode cX11_set 30 = .ok (.iload_n 2, 1) := by decide +kernel
theorem dX11_set_31 : decode cX11_set 31 = .ok (.invokevirtual 168, 3) := by decide +kernel
theorem dX11_set_34 : decode cX11_set 34 = .ok (.goto 4, 3) := by decide +kernel
theorem dX11_set_37 : decode cX11_set 37 = .ok (.iconst (-1), 1) := by decide +kernel
theorem dX11_set_38 : decode cX11_set 38 = .ok (.ireturn, 1) := by decide +kernel
set_option maxRecDepth 20000 in
theorem ggX11_lawOf_X11_isLaw : GoodIn wsX11_lawOf wsX11_isLaw := goodIn_r _ [5, 6, 7, 4, 8] (by decide +kernel) (by decide +kernel)
set_option maxRecDepth 20000 in
theorem gX11_lawOf_X11_isLaw : GoodIn wsX11_lawOf (va_wsS RX11 165 yX11_isLaw wsX11_isLaw) := goodIn_app (goodIn_of _ (by decide +kernel)) ggX11_lawOf_X11_isLaw
theorem dX11_lawOf_0 : decode cX11_lawOf 0 = .ok (.iload_n 1, 1) := by decide +kernel
theorem dX11_lawOf_1 : decode cX11_lawOf 1 = .ok (.invokestatic 165, 3) := by decide +kernel
theorem dX11_lawOf_4 : decode cX11_lawOf 4 = .ok (.ifCond .eq 14, 3) := by decide +kernel
theorem dX11_lawOf_7 : decode cX11_lawOf 7 = .ok (.aload_n 0, 1) := by decide +kernel
theorem dX11_lawOf_8 : decode cX11_lawOf 8 = .ok (.getfield 9, 3) := by decide +kernel
theorem dX11_lawOf_11 : decode cX11_lawOf 11 = .ok (.iconst 1, 1) := by decide +kernel
theorem dX11_lawOf_12 : decode cX11_lawOf 12 = .ok (.iload_n 1, 1) := by decide +kernel
theorem dX11_lawOf_13 : decode cX11_lawOf 13 = .ok (.iadd, 1) := by decide +kernel
theorem dX11_lawOf_14 : decode cX11_lawOf 14 = .ok (.iaload, 1) := by decide +kernel
theorem dX11_lawOf_15 : decode cX11_lawOf 15 = .ok (.goto 4, 3) := by decide +kernel
theorem dX11_lawOf_18 : decode cX11_lawOf 18 = .ok (.iconst (-1), 1) := by decide +kernel
theorem dX11_lawOf_19 : decode cX11_lawOf 19 = .ok (.ireturn, 1) := by decide +kernel
set_option maxRecDepth 20000 in
theorem ggX11_isRest_X11_in1 : GoodIn wsX11_isRest wsX11_in1 := goodIn_r _ [4] (by decide +kernel) (by decide +kernel)
set_option maxRecDepth 20000 in
theorem gX11_isRest_X11_in1 : GoodIn wsX11_isRest (va_wsS RX11 57 yX11_in1 wsX11_in1) := goodIn_app (goodIn_of _ (by decide +kernel)) ggX11_isRest_X11_in1
theorem dX11_isRest_0 : decode cX11_isRest 0 = .ok (.iload_n 0, 1) := by decide +kernel
theorem dX11_isRest_1 : decode cX11_isRest 1 = .ok (.iconst 0, 1) := by decide +kernel
theorem dX11_isRest_2 : decode cX11_isRest 2 = .ok (.iconst 5, 1) := by decide +kernel
theorem dX11_isRest_3 : decode cX11_isRest 3 = .ok (.invokestatic 57, 3) := by decide +kernel
theorem dX11_isRest_6 : decode cX11_isRest 6 = .ok (.ireturn, 1) := by decide +kernel
set_option maxRecDepth 20000 in
theorem ggX11_roster_X11_isRest : GoodIn wsX11_roster wsX11_isRest := goodIn_r _ [4, 5, 6, 3, 7] (by decide +kernel) (by decide +kernel)
set_option maxRecDepth 20000 in
theorem gX11_roster_X11_isRest : GoodIn wsX11_roster (va_wsS RX11 171 yX11_isRest wsX11_isRest) := goodIn_app (goodIn_of _ (by decide +kernel)) ggX11_roster_X11_isRest
set_option maxRecDepth 20000 in
theorem ggX11_roster_X11_in1 : GoodIn wsX11_roster wsX11_in1 := goodIn_r _ [7] (by decide +kernel) (by decide +kernel)
set_option maxRecDepth 20000 in
theorem gX11_roster_X11_in1 : GoodIn wsX11_roster (va_wsS RX11 57 yX11_in1 wsX11_in1) := goodIn_app (goodIn_of _ (by decide +kernel)) ggX11_roster_X11_in1
set_option maxRecDepth 20000 in
theorem ggX11_roster_X11_becomes : GoodIn wsX11_roster wsX11_becomes := goodIn_r _ [11, 12, 13, 14, 15, 16, 17, 18, 19, 20, 21, 22, 23, 24, 25, 26, 27, 28, 29, 30, 31, 32, 33, 34, 35, 36] (by decide +kernel) (by decide +kernel)
set_option maxRecDepth 20000 in
theorem gX11_roster_X11_becomes : GoodIn wsX11_roster (wsV RX11 168 RX11 yX11_becomes wsX11_becomes) := goodIn_app (goodIn_of _ (by decide +kernel)) ggX11_roster_X11_becomes
theorem dX11_roster_0 : decode cX11_roster 0 = .ok (.iload_n 1, 1) := by decide +kernel
theorem dX11_roster_1 : decode cX11_roster 1 = .ok (.invokestatic 171, 3) := by decide +kernel
theorem dX11_roster_4 : decode cX11_roster 4 = .ok (.ifCond .eq 43, 3) := by decide +kernel
theorem dX11_roster_7 : decode cX11_roster 7 = .ok (.iload_n 2, 1) := by decide +kernel
theorem dX11_roster_8 : decode cX11_roster 8 = .ok (.iconst 0, 1) := by decide +kernel
theorem dX11_roster_9 : decode cX11_roster 9 = .ok (.iconst 1, 1) := by decide +kernel
theorem dX11_roster_10 : decode cX11_roster 10 = .ok (.invokestatic 57, 3) := by decide +kernel
theorem dX11_roster_13 : decode cX11_roster 13 = .ok (.ifCond .eq 34, 3) := by decide +kernel
theorem dX11_roster_16 : decode cX11_roster 16 = .ok (.iload_n 3, 1) := by decide +kernel
theorem dX11_roster_17 : decode cX11_roster 17 = .ok (.iconst 0, 1) := by decide +kernel
theorem dX11_roster_18 : decode cX11_roster 18 = .ok (.bipush 9, 2) := by decide +kernel
theorem dX11_roster_20 : decode cX11_roster 20 = .ok (.invokestatic 57, 3) := by decide +kernel
theorem dX11_roster_23 : decode cX11_roster 23 = .ok (.ifCond .eq 24, 3) := by decide +kernel
theorem dX11_roster_26 : decode cX11_roster 26 = .ok (.aload_n 0, 1) := by decide +kernel
theorem dX11_roster_27 : decode cX11_roster 27 = .ok (.iload_n 2, 1) := by decide +kernel
theorem dX11_roster_28 : decode cX11_roster 28 = .ok (.ifCond .ne 8, 3) := by decide +kernel
theorem dX11_roster_31 : decode cX11_roster 31 = .ok (.bipush 7, 2) := by decide +kernel
theorem dX11_roster_33 : decode cX11_roster 33 = .ok (.goto 5, 3) := by decide +kernel
theorem dX11_roster_36 : decode cX11_roster 36 = .ok (.bipush 13, 2) := by decide +kernel
theorem dX11_roster_38 : decode cX11_roster 38 = .ok (.iload_n 1, 1) := by decide +kernel
theorem dX11_roster_39 : decode cX11_roster 39 = .ok (.iadd, 1) := by decide +kernel
theorem dX11_roster_40 : decode cX11_roster 40 = .ok (.iload_n 3, 1) := by decide +kernel
theorem dX11_roster_41 : decode cX11_roster 41 = .ok (.invokevirtual 168, 3) := by decide +kernel
theorem dX11_roster_44 : decode cX11_roster 44 = .ok (.goto 4, 3) := by decide +kernel
theorem dX11_roster_47 : decode cX11_roster 47 = .ok (.iconst (-1), 1) := by decide +kernel
theorem dX11_roster_48 : decode cX11_roster 48 = .ok (.ireturn, 1) := by decide +kernel
set_option maxRecDepth 20000 in
theorem ggX11_rosterOf_X11_isRest : GoodIn wsX11_rosterOf wsX11_isRest := goodIn_r _ [5, 6, 7, 4, 8] (by decide +kernel) (by decide +kernel)
set_option maxRecDepth 20000 in
theorem gX11_rosterOf_X11_isRest : GoodIn wsX11_rosterOf (va_wsS RX11 171 yX11_isRest wsX11_isRest) := goodIn_app (goodIn_of _ (by decide +kernel)) ggX11_rosterOf_X11_isRest
set_option maxRecDepth 20000 in
theorem ggX11_rosterOf_X11_in1 : GoodIn wsX11_rosterOf wsX11_in1 := goodIn_r _ [8] (by decide +kernel) (by decide +kernel)
set_option maxRecDepth 20000 in
theorem gX11_rosterOf_X11_in1 : GoodIn wsX11_rosterOf (va_wsS RX11 57 yX11_in1 wsX11_in1) := goodIn_app (goodIn_of _ (by decide +kernel)) ggX11_rosterOf_X11_in1
theorem dX11_rosterOf_0 : decode cX11_rosterOf 0 = .ok (.iload_n 1, 1) := by decide +kernel
theorem dX11_rosterOf_1 : decode cX11_rosterOf 1 = .ok (.invokestatic 171, 3) := by decide +kernel
theorem dX11_rosterOf_4 : decode cX11_rosterOf 4 = .ok (.ifCond .eq 33, 3) := by decide +kernel
theorem dX11_rosterOf_7 : decode cX11_rosterOf 7 = .ok (.iload_n 2, 1) := by decide +kernel
theorem dX11_rosterOf_8 : decode cX11_rosterOf 8 = .ok (.iconst 0, 1) := by decide +kernel
theorem dX11_rosterOf_9 : decode cX11_rosterOf 9 = .ok (.iconst 1, 1) := by decide +kernel
theorem dX11_rosterOf_10 : decode cX11_rosterOf 10 = .ok (.invokestatic 57, 3) := by decide +kernel
theorem dX11_rosterOf_13 : decode cX11_rosterOf 13 = .ok (.ifCond .eq 24, 3) := by decide +kernel
theorem dX11_rosterOf_16 : decode cX11_rosterOf 16 = .ok (.aload_n 0, 1) := by decide +kernel
theorem dX11_rosterOf_17 : decode cX11_rosterOf 17 = .ok (.getfield 9, 3) := by decide +kernel
theorem dX11_rosterOf_20 : decode cX11_rosterOf 20 = .ok (.iload_n 2, 1) := by decide +kernel
theorem dX11_rosterOf_21 : decode cX11_rosterOf 21 = .ok (.ifCond .ne 8, 3) := by decide +kernel
theorem dX11_rosterOf_24 : decode cX11_rosterOf 24 = .ok (.bipush 7, 2) := by decide +kernel
theorem dX11_rosterOf_26 : decode cX11_rosterOf 26 = .ok (.goto 5, 3) := by decide +kernel
theorem dX11_rosterOf_29 : decode cX11_rosterOf 29 = .ok (.bipush 13, 2) := by decide +kernel
theorem dX11_rosterOf_31 : decode cX11_rosterOf 31 = .ok (.iload_n 1, 1) := by decide +kernel
theorem dX11_rosterOf_32 : decode cX11_rosterOf 32 = .ok (.iadd, 1) := by decide +kernel
theorem dX11_rosterOf_33 : decode cX11_rosterOf 33 = .ok (.iaload, 1) := by decide +kernel
theorem dX11_rosterOf_34 : decode cX11_rosterOf 34 = .ok (.goto 4, 3) := by decide +kernel
theorem dX11_rosterOf_37 : decode cX11_rosterOf 37 = .ok (.iconst (-1), 1) := by decide +kernel
theorem dX11_rosterOf_38 : decode cX11_rosterOf 38 = .ok (.ireturn, 1) := by decide +kernel
set_option maxRecDepth 20000 in
theorem ggX11_goer_X11_in1 : GoodIn wsX11_goer wsX11_in1 := goodIn_r _ [5] (by decide +kernel) (by decide +kernel)
set_option maxRecDepth 20000 in
theorem gX11_goer_X11_in1 : GoodIn wsX11_goer (va_wsS RX11 57 yX11_in1 wsX11_in1) := goodIn_app (goodIn_of _ (by decide +kernel)) ggX11_goer_X11_in1
set_option maxRecDepth 20000 in
theorem ggX11_goer_X11_puts : GoodIn wsX11_goer wsX11_puts := goodIn_r _ [9, 1, 10, 11, 12, 13, 14, 15, 16, 17, 18, 19, 20, 21, 22, 23, 24, 25, 26, 27, 28, 29, 30, 31, 32, 33] (by decide +kernel) (by decide +kernel)
set_option maxRecDepth 20000 in
theorem gX11_goer_X11_puts : GoodIn wsX11_goer (wsV RX11 92 RX11 yX11_puts wsX11_puts) := goodIn_app (goodIn_of _ (by decide +kernel)) ggX11_goer_X11_puts
theorem dX11_goer_0 : decode cX11_goer 0 = .ok (.iload_n 1, 1) := by decide +kernel
theorem dX11_goer_1 : decode cX11_goer 1 = .ok (.iconst 0, 1) := by decide +kernel
theorem dX11_goer_2 : decode cX11_goer 2 = .ok (.iconst 5, 1) := by decide +kernel
theorem dX11_goer_3 : decode cX11_goer 3 = .ok (.invokestatic 57, 3) := by decide +kernel
theorem dX11_goer_6 : decode cX11_goer 6 = .ok (.ifCond .eq 23, 3) := by decide +kernel
theorem dX11_goer_9 : decode cX11_goer 9 = .ok (.iload_n 2, 1) := by decide +kernel
theorem dX11_goer_10 : decode cX11_goer 10 = .ok (.iconst 0, 1) := by decide +kernel
theorem dX11_goer_11 : decode cX11_goer 11 = .ok (.bipush 99, 2) := by decide +kernel
theorem dX11_goer_13 : decode cX11_goer 13 = .ok (.invokestatic 57, 3) := by decide +kernel
theorem dX11_goer_16 : decode cX11_goer 16 = .ok (.ifCond .eq 13, 3) := by decide +kernel
theorem dX11_goer_19 : decode cX11_goer 19 = .ok (.iload_n 3, 1) := by decide +kernel
theorem dX11_goer_20 : decode cX11_goer 20 = .ok (.iconst 0, 1) := by decide +kernel
theorem dX11_goer_21 : decode cX11_goer 21 = .ok (.bipush 11, 2) := by decide +kernel
theorem dX11_goer_23 : decode cX11_goer 23 = .ok (.invokestatic 57, 3) := by decide +kernel
theorem dX11_goer_26 : decode cX11_goer 26 = .ok (.ifCond .ne 5, 3) := by decide +kernel
theorem dX11_goer_29 : decode cX11_goer 29 = .ok (.iconst (-1), 1) := by decide +kernel
theorem dX11_goer_30 : decode cX11_goer 30 = .ok (.ireturn, 1) := by decide +kernel
theorem dX11_goer_31 : decode cX11_goer 31 = .ok (.aload_n 0, 1) := by decide +kernel
theorem dX11_goer_32 : decode cX11_goer 32 = .ok (.getfield 9, 3) := by decide +kernel
theorem dX11_goer_35 : decode cX11_goer 35 = .ok (.bipush 6, 2) := by decide +kernel
theorem dX11_goer_37 : decode cX11_goer 37 = .ok (.iaload, 1) := by decide +kernel
theorem dX11_goer_38 : decode cX11_goer 38 = .ok (.bipush 8, 2) := by decide +kernel
theorem dX11_goer_40 : decode cX11_goer 40 = .ok (.if_icmp .ne 6, 3) := by decide +kernel
theorem dX11_goer_43 : decode cX11_goer 43 = .ok (.bipush (-2), 2) := by decide +kernel
theorem dX11_goer_45 : decode cX11_goer 45 = .ok (.ireturn, 1) := by decide +kernel
theorem dX11_goer_46 : decode cX11_goer 46 = .ok (.aload_n 0, 1) := by decide +kernel
theorem dX11_goer_47 : decode cX11_goer 47 = .ok (.getfield 9, 3) := by decide +kernel
theorem dX11_goer_50 : decode cX11_goer 50 = .ok (.bipush 6, 2) := by decide +kernel
theorem dX11_goer_52 : decode cX11_goer 52 = .ok (.iaload, 1) := by decide +kernel
theorem dX11_goer_53 : decode cX11_goer 53 = .ok (.istore 4, 2) := by decide +kernel
theorem dX11_goer_55 : decode cX11_goer 55 = .ok (.aload_n 0, 1) := by decide +kernel
theorem dX11_goer_56 : decode cX11_goer 56 = .ok (.iload 4, 2) := by decide +kernel
theorem dX11_goer_58 : decode cX11_goer 58 = .ok (.iconst 0, 1) := by decide +kernel
theorem dX11_goer_59 : decode cX11_goer 59 = .ok (.iload_n 1, 1) := by decide +kernel
theorem dX11_goer_60 : decode cX11_goer 60 = .ok (.invokevirtual 92, 3) := by decide +kernel
theorem dX11_goer_63 : decode cX11_goer 63 = .ok (.aload_n 0, 1) := by decide +kernel
theorem dX11_goer_64 : decode cX11_goer 64 = .ok (.iload 4, 2) := by decide +kernel
theorem dX11_goer_66 : decode cX11_goer 66 = .ok (.iconst 1, 1) := by decide +kernel
theorem dX11_goer_67 : decode cX11_goer 67 = .ok (.iload_n 2, 1) := by decide +kernel
theorem dX11_goer_68 : decode cX11_goer 68 = .ok (.invokevirtual 92, 3) := by decide +kernel
theorem dX11_goer_71 : decode cX11_goer 71 = .ok (.aload_n 0, 1) := by decide +kernel
theorem dX11_goer_72 : decode cX11_goer 72 = .ok (.iload 4, 2) := by decide +kernel
theorem dX11_goer_74 : decode cX11_goer 74 = .ok (.iconst 2, 1) := by decide +kernel
theorem dX11_goer_75 : decode cX11_goer 75 = .ok (.iload_n 3, 1) := by decide +kernel
theorem dX11_goer_76 : decode cX11_goer 76 = .ok (.invokevirtual 92, 3) := by decide +kernel
theorem dX11_goer_79 : decode cX11_goer 79 = .ok (.aload_n 0, 1) := by decide +kernel
theorem dX11_goer_80 : decode cX11_goer 80 = .ok (.iload 4, 2) := by decide +kernel
theorem dX11_goer_82 : decode cX11_goer 82 = .ok (.iconst 3, 1) := by decide +kernel
theorem dX11_goer_83 : decode cX11_goer 83 = .ok (.iconst 0, 1) := by decide +kernel
theorem dX11_goer_84 : decode cX11_goer 84 = .ok (.invokevirtual 92, 3) := by decide +kernel
theorem dX11_goer_87 : decode cX11_goer 87 = .ok (.aload_n 0, 1) := by decide +kernel
theorem dX11_goer_88 : decode cX11_goer 88 = .ok (.getfield 9, 3) := by decide +kernel
theorem dX11_goer_91 : decode cX11_goer 91 = .ok (.bipush 6, 2) := by decide +kernel
theorem dX11_goer_93 : decode cX11_goer 93 = .ok (.dup2, 1) := by decide +kernel
theorem dX11_goer_94 : decode cX11_goer 94 = .ok (.iaload, 1) := by decide +kernel
theorem dX11_goer_95 : decode cX11_goer 95 = .ok (.iconst 1, 1) := by decide +kernel
theorem dX11_goer_96 : decode cX11_goer 96 = .ok (.iadd, 1) := by decide +kernel
theorem dX11_goer_97 : decode cX11_goer 97 = .ok (.iastore, 1) := by decide +kernel
theorem dX11_goer_98 : decode cX11_goer 98 = .ok (.iload 4, 2) := by decide +kernel
theorem dX11_goer_100 : decode cX11_goer 100 = .ok (.ireturn, 1) := by decide +kernel
set_option maxRecDepth 20000 in
theorem ggX11_of_X11_isGoer : GoodIn wsX11_of wsX11_isGoer := goodIn_r _ [5, 6, 7, 8, 4, 9, 34, 35, 36, 37, 38, 39, 40, 41, 42, 43, 44, 45, 46, 47, 48, 49, 50, 51, 52, 53, 54, 55, 56, 57] (by decide +kernel) (by decide +kernel)
set_option maxRecDepth 20000 in
theorem gX11_of_X11_isGoer : GoodIn wsX11_of (wsV RX11 174 RX11 yX11_isGoer wsX11_isGoer) := goodIn_app (goodIn_of _ (by decide +kernel)) ggX11_of_X11_isGoer
set_option maxRecDepth 20000 in
theorem ggX11_of_X11_in1 : GoodIn wsX11_of wsX11_in1 := goodIn_r _ [9] (by decide +kernel) (by decide +kernel)
set_option maxRecDepth 20000 in
theorem gX11_of_X11_in1 : GoodIn wsX11_of (va_wsS RX11 57 yX11_in1 wsX11_in1) := goodIn_app (goodIn_of _ (by decide +kernel)) ggX11_of_X11_in1
set_option maxRecDepth 20000 in
theorem ggX11_of_X11_get : GoodIn wsX11_of wsX11_get := goodIn_r _ [13, 6, 34, 35, 36, 37, 38, 39, 40, 41, 42, 43, 44, 45, 46, 47, 48, 49, 50, 51, 52, 53, 54, 55, 56, 57] (by decide +kernel) (by decide +kernel)
set_option maxRecDepth 20000 in
theorem gX11_of_X11_get : GoodIn wsX11_of (wsV RX11 61 RX11 yX11_get wsX11_get) := goodIn_app (goodIn_of _ (by decide +kernel)) ggX11_of_X11_get
set_option maxRecDepth 20000 in
theorem ggX11_of_X11_isThrough : GoodIn wsX11_of wsX11_isThrough := goodIn_r _ [17, 10, 11, 12, 4, 13, 6, 34, 35, 36, 37, 38, 39, 40, 41, 42, 43, 44, 45, 46, 47, 48, 49, 50, 51, 52, 53, 54, 55, 56, 57] (by decide +kernel) (by decide +kernel)
set_option maxRecDepth 20000 in
theorem gX11_of_X11_isThrough : GoodIn wsX11_of (wsV RX11 96 RX11 yX11_isThrough wsX11_isThrough) := goodIn_app (goodIn_of _ (by decide +kernel)) ggX11_of_X11_isThrough
set_option maxRecDepth 20000 in
theorem ggX11_of_X11_doesSee : GoodIn wsX11_of wsX11_doesSee := goodIn_r _ [21, 10, 11, 12, 4, 13, 6, 22, 23, 24, 25, 26, 27, 28, 29, 30, 31, 32, 33, 34, 35, 36, 37, 38, 39, 40, 41, 42, 43, 44, 45, 46, 47, 48, 49, 50, 51, 52, 53, 54, 55, 56, 57] (by decide +kernel) (by decide +kernel)
set_option maxRecDepth 20000 in
theorem gX11_of_X11_doesSee : GoodIn wsX11_of (wsV RX11 76 RX11 yX11_doesSee wsX11_doesSee) := goodIn_app (goodIn_of _ (by decide +kernel)) ggX11_of_X11_doesSee
theorem dX11_of_0 : decode cX11_of 0 = .ok (.aload_n 0, 1) := by decide +kernel
theorem dX11_of_1 : decode cX11_of 1 = .ok (.iload_n 1, 1) := by decide +kernel
theorem dX11_of_2 : decode cX11_of 2 = .ok (.invokevirtual 174, 3) := by decide +kernel
theorem dX11_of_5 : decode cX11_of 5 = .ok (.ifCond .eq 12, 3) := by decide +kernel
theorem dX11_of_8 : decode cX11_of 8 = .ok (.iload_n 2, 1) := by decide +kernel
theorem dX11_of_9 : decode cX11_of 9 = .ok (.iconst 0, 1) := by decide +kernel
theorem dX11_of_10 : decode cX11_of 10 = .ok (.iconst 4, 1) := by decide +kernel
theorem dX11_of_11 : decode cX11_of 11 = .ok (.invokestatic 57, 3) := by decide +kernel
theorem dX11_of_14 : decode cX11_of 14 = .ok (.ifCond .ne 5, 3) := by decide +kernel
theorem dX11_of_17 : decode cX11_of 17 = .ok (.iconst (-1), 1) := by decide +kernel
theorem dX11_of_18 : decode cX11_of 18 = .ok (.ireturn, 1) := by decide +kernel
theorem dX11_of_19 : decode cX11_of 19 = .ok (.iload_n 2, 1) := by decide +kernel
theorem dX11_of_20 : decode cX11_of 20 = .ok (.iconst 4, 1) := by decide +kernel
theorem dX11_of_21 : decode cX11_of 21 = .ok (.if_icmp .ge 12, 3) := by decide +kernel
theorem dX11_of_24 : decode cX11_of 24 = .ok (.aload_n 0, 1) := by decide +kernel
theorem dX11_of_25 : decode cX11_of 25 = .ok (.iload_n 1, 1) := by decide +kernel
theorem dX11_of_26 : decode cX11_of 26 = .ok (.iload_n 2, 1) := by decide +kernel
theorem dX11_of_27 : decode cX11_of 27 = .ok (.invokevirtual 61, 3) := by decide +kernel
theorem dX11_of_30 : decode cX11_of 30 = .ok (.goto 24, 3) := by decide +kernel
theorem dX11_of_33 : decode cX11_of 33 = .ok (.aload_n 0, 1) := by decide +kernel
theorem dX11_of_34 : decode cX11_of 34 = .ok (.iload_n 1, 1) := by decide +kernel
theorem dX11_of_35 : decode cX11_of 35 = .ok (.invokevirtual 96, 3) := by decide +kernel
theorem dX11_of_38 : decode cX11_of 38 = .ok (.ifCond .ne 15, 3) := by decide +kernel
theorem dX11_of_41 : decode cX11_of 41 = .ok (.aload_n 0, 1) := by decide +kernel
theorem dX11_of_42 : decode cX11_of 42 = .ok (.iload_n 1, 1) := by decide +kernel
theorem dX11_of_43 : decode cX11_of 43 = .ok (.invokevirtual 76, 3) := by decide +kernel
theorem dX11_of_46 : decode cX11_of 46 = .ok (.ifCond .eq 7, 3) := by decide +kernel
theorem dX11_of_49 : decode cX11_of 49 = .ok (.iconst 1, 1) := by decide +kernel
theorem dX11_of_50 : decode cX11_of 50 = .ok (.goto 4, 3) := by decide +kernel
theorem dX11_of_53 : decode cX11_of 53 = .ok (.iconst 0, 1) := by decide +kernel
theorem dX11_of_54 : decode cX11_of 54 = .ok (.ireturn, 1) := by decide +kernel
set_option maxRecDepth 20000 in
theorem ggX11_does_X11_isGoer : GoodIn wsX11_does wsX11_isGoer := goodIn_r _ [5, 6, 7, 8, 4, 9, 46, 47, 48, 49, 50, 51, 52, 53, 54, 55, 56, 57, 58, 59, 60, 61, 62, 63, 64, 65, 66, 67, 68, 69] (by decide +kernel) (by decide +kernel)
set_option maxRecDepth 20000 in
theorem gX11_does_X11_isGoer : GoodIn wsX11_does (wsV RX11 174 RX11 yX11_isGoer wsX11_isGoer) := goodIn_app (goodIn_of _ (by decide +kernel)) ggX11_does_X11_isGoer
set_option maxRecDepth 20000 in
theorem ggX11_does_X11_in1 : GoodIn wsX11_does wsX11_in1 := goodIn_r _ [9] (by decide +kernel) (by decide +kernel)
set_option maxRecDepth 20000 in
theorem gX11_does_X11_in1 : GoodIn wsX11_does (va_wsS RX11 57 yX11_in1 wsX11_in1) := goodIn_app (goodIn_of _ (by decide +kernel)) ggX11_does_X11_in1
set_option maxRecDepth 20000 in
theorem ggX11_does_X11_isThrough : GoodIn wsX11_does wsX11_isThrough := goodIn_r _ [13, 14, 15, 16, 4, 17, 6, 46, 47, 48, 49, 50, 51, 52, 53, 54, 55, 56, 57, 58, 59, 60, 61, 62, 63, 64, 65, 66, 67, 68, 69] (by decide +kernel) (by decide +kernel)
set_option maxRecDepth 20000 in
theorem gX11_does_X11_isThrough : GoodIn wsX11_does (wsV RX11 96 RX11 yX11_isThrough wsX11_isThrough) := goodIn_app (goodIn_of _ (by decide +kernel)) ggX11_does_X11_isThrough
set_option maxRecDepth 20000 in
theorem ggX11_does_X11_sightOf : GoodIn wsX11_does wsX11_sightOf := goodIn_r _ [21, 6, 22, 23, 24, 4, 25, 26, 27, 28, 29, 14, 15, 16, 17, 46, 47, 48, 49, 50, 51, 52, 53, 54, 55, 56, 57, 58, 59, 60, 61, 62, 63, 64, 65, 66, 67, 68, 69] (by decide +kernel) (by decide +kernel)
set_option maxRecDepth 20000 in
theorem gX11_does_X11_sightOf : GoodIn wsX11_does (wsV RX11 72 RX11 yX11_sightOf wsX11_sightOf) := goodIn_app (goodIn_of _ (by decide +kernel)) ggX11_does_X11_sightOf
set_option maxRecDepth 20000 in
theorem ggX11_does_X11_keenOf : GoodIn wsX11_does wsX11_keenOf := goodIn_r _ [33, 6, 14, 15, 16, 4, 17, 22, 23, 24, 25, 46, 47, 48, 49, 50, 51, 52, 53, 54, 55, 56, 57, 58, 59, 60, 61, 62, 63, 64, 65, 66, 67, 68, 69] (by decide +kernel) (by decide +kernel)
set_option maxRecDepth 20000 in
theorem gX11_does_X11_keenOf : GoodIn wsX11_does (wsV RX11 83 RX11 yX11_keenOf wsX11_keenOf) := goodIn_app (goodIn_of _ (by decide +kernel)) ggX11_does_X11_keenOf
set_option maxRecDepth 20000 in
theorem ggX11_does_X11_fearsOf : GoodIn wsX11_does wsX11_fearsOf := goodIn_r _ [37, 14, 15, 16, 4, 17, 6, 26, 27, 28, 29, 46, 47, 48, 49, 50, 51, 52, 53, 54, 55, 56, 57, 58, 59, 60, 61, 62, 63, 64, 65, 66, 67, 68, 69] (by decide +kernel) (by decide +kernel)
set_option maxRecDepth 20000 in
theorem gX11_does_X11_fearsOf : GoodIn wsX11_does (wsV RX11 86 RX11 yX11_fearsOf wsX11_fearsOf) := goodIn_app (goodIn_of _ (by decide +kernel)) ggX11_does_X11_fearsOf
set_option maxRecDepth 20000 in
theorem ggX11_does_X11_paceOf : GoodIn wsX11_does wsX11_paceOf := goodIn_r _ [41, 6, 14, 15, 16, 4, 17, 42, 43, 44, 45, 18, 19, 20, 21, 22, 23, 24, 25, 26, 27, 28, 29, 46, 47, 48, 49, 50, 51, 52, 53, 54, 55, 56, 57, 58, 59, 60, 61, 62, 63, 64, 65, 66, 67, 68, 69] (by decide +kernel) (by decide +kernel)
set_option maxRecDepth 20000 in
theorem gX11_does_X11_paceOf : GoodIn wsX11_does (wsV RX11 80 RX11 yX11_paceOf wsX11_paceOf) := goodIn_app (goodIn_of _ (by decide +kernel)) ggX11_does_X11_paceOf
theorem dX11_does_0 : decode cX11_does 0 = .ok (.aload_n 0, 1) := by decide +kernel
theorem dX11_does_1 : decode cX11_does 1 = .ok (.iload_n 1, 1) := by decide +kernel
theorem dX11_does_2 : decode cX11_does 2 = .ok (.invokevirtual 174, 3) := by decide +kernel
theorem dX11_does_5 : decode cX11_does 5 = .ok (.ifCond .eq 12, 3) := by decide +kernel
theorem dX11_does_8 : decode cX11_does 8 = .ok (.iload_n 2, 1) := by decide +kernel
theorem dX11_does_9 : decode cX11_does 9 = .ok (.iconst 0, 1) := by decide +kernel
theorem dX11_does_10 : decode cX11_does 10 = .ok (.iconst 3, 1) := by decide +kernel
theorem dX11_does_11 : decode cX11_does 11 = .ok (.invokestatic 57, 3) := by decide +kernel
theorem dX11_does_14 : decode cX11_does 14 = .ok (.ifCond .ne 5, 3) := by decide +kernel
theorem dX11_does_17 : decode cX11_does 17 = .ok (.iconst (-1), 1) := by decide +kernel
theorem dX11_does_18 : decode cX11_does 18 = .ok (.ireturn, 1) := by decide +kernel
theorem dX11_does_19 : decode cX11_does 19 = .ok (.aload_n 0, 1) := by decide +kernel
theorem dX11_does_20 : decode cX11_does 20 = .ok (.iload_n 1, 1) := by decide +kernel
theorem dX11_does_21 : decode cX11_does 21 = .ok (.invokevirtual 96, 3) := by decide +kernel
theorem dX11_does_24 : decode cX11_does 24 = .ok (.ifCond .eq 6, 3) := by decide +kernel
theorem dX11_does_27 : decode cX11_does 27 = .ok (.bipush (-3), 2) := by decide +kernel
theorem dX11_does_29 : decode cX11_does 29 = .ok (.ireturn, 1) := by decide +kernel
theorem dX11_does_30 : decode cX11_does 30 = .ok (.sipush 1000, 3) := by decide +kernel
theorem dX11_does_33 : decode cX11_does 33 = .ok (.iload_n 2, 1) := by decide +kernel
theorem dX11_does_34 : decode cX11_does 34 = .ok (.ifCond .ne 11, 3) := by decide +kernel
theorem dX11_does_37 : decode cX11_does 37 = .ok (.aload_n 0, 1) := by decide +kernel
theorem dX11_does_38 : decode cX11_does 38 = .ok (.iload_n 1, 1) := by decide +kernel
theorem dX11_does_39 : decode cX11_does 39 = .ok (.invokevirtual 72, 3) := by decide +kernel
theorem dX11_does_42 : decode cX11_does 42 = .ok (.goto 34, 3) := by decide +kernel
theorem dX11_does_45 : decode cX11_does 45 = .ok (.iload_n 2, 1) := by decide +kernel
theorem dX11_does_46 : decode cX11_does 46 = .ok (.iconst 1, 1) := by decide +kernel
theorem dX11_does_47 : decode cX11_does 47 = .ok (.if_icmp .ne 11, 3) := by decide +kernel
theorem dX11_does_50 : decode cX11_does 50 = .ok (.aload_n 0, 1) := by decide +kernel
theorem dX11_does_51 : decode cX11_does 51 = .ok (.iload_n 1, 1) := by decide +kernel
theorem dX11_does_52 : decode cX11_does 52 = .ok (.invokevirtual 83, 3) := by decide +kernel
theorem dX11_does_55 : decode cX11_does 55 = .ok (.goto 21, 3) := by decide +kernel
theorem dX11_does_58 : decode cX11_does 58 = .ok (.iload_n 2, 1) := by decide +kernel
theorem dX11_does_59 : decode cX11_does 59 = .ok (.iconst 2, 1) := by decide +kernel
theorem dX11_does_60 : decode cX11_does 60 = .ok (.if_icmp .ne 11, 3) := by decide +kernel
theorem dX11_does_63 : decode cX11_does 63 = .ok (.aload_n 0, 1) := by decide +kernel
theorem dX11_does_64 : decode cX11_does 64 = .ok (.iload_n 1, 1) := by decide +kernel
theorem dX11_does_65 : decode cX11_does 65 = .ok (.invokevirtual 86, 3) := by decide +kernel
theorem dX11_does_68 : decode cX11_does 68 = .ok (.goto 8, 3) := by decide +kernel
theorem dX11_does_71 : decode cX11_does 71 = .ok (.aload_n 0, 1) := by decide +kernel
theorem dX11_does_72 : decode cX11_does 72 = .ok (.iload_n 1, 1) := by decide +kernel
theorem dX11_does_73 : decode cX11_does 73 = .ok (.invokevirtual 80, 3) := by decide +kernel
theorem dX11_does_76 : decode cX11_does 76 = .ok (.iadd, 1) := by decide +kernel
theorem dX11_does_77 : decode cX11_does 77 = .ok (.ireturn, 1) := by decide +kernel
set_option maxRecDepth 20000 in
theorem ggX11_mind_X11_isGoer : GoodIn wsX11_mind wsX11_isGoer := goodIn_r _ [5, 6, 7, 8, 4, 9, 14, 15, 16, 17, 18, 19, 20, 21, 22, 23, 24, 25, 26, 27, 28, 29, 30, 31, 32, 33, 34, 35, 36, 37] (by decide +kernel) (by decide +kernel)
set_option maxRecDepth 20000 in
theorem gX11_mind_X11_isGoer : GoodIn wsX11_mind (wsV RX11 174 RX11 yX11_isGoer wsX11_isGoer) := goodIn_app (goodIn_of _ (by decide +kernel)) ggX11_mind_X11_isGoer
set_option maxRecDepth 20000 in
theorem ggX11_mind_X11_in1 : GoodIn wsX11_mind wsX11_in1 := goodIn_r _ [9] (by decide +kernel) (by decide +kernel)
set_option maxRecDepth 20000 in
theorem gX11_mind_X11_in1 : GoodIn wsX11_mind (va_wsS RX11 57 yX11_in1 wsX11_in1) := goodIn_app (goodIn_of _ (by decide +kernel)) ggX11_mind_X11_in1
set_option maxRecDepth 20000 in
theorem ggX11_mind_X11_becomes : GoodIn wsX11_mind wsX11_becomes := goodIn_r _ [13, 6, 14, 15, 16, 17, 18, 19, 20, 21, 22, 23, 24, 25, 26, 27, 28, 29, 30, 31, 32, 33, 34, 35, 36, 37] (by decide +kernel) (by decide +kernel)
set_option maxRecDepth 20000 in
theorem gX11_mind_X11_becomes : GoodIn wsX11_mind (wsV RX11 168 RX11 yX11_becomes wsX11_becomes) := goodIn_app (goodIn_of _ (by decide +kernel)) ggX11_mind_X11_becomes
theorem dX11_mind_0 : decode cX11_mind 0 = .ok (.aload_n 0, 1) := by decide +kernel
theorem dX11_mind_1 : decode cX11_mind 1 = .ok (.iload_n 1, 1) := by decide +kernel
theorem dX11_mind_2 : decode cX11_mind 2 = .ok (.invokevirtual 174, 3) := by decide +kernel
theorem dX11_mind_5 : decode cX11_mind 5 = .ok (.ifCond .eq 26, 3) := by decide +kernel
theorem dX11_mind_8 : decode cX11_mind 8 = .ok (.iload_n 2, 1) := by decide +kernel
theorem dX11_mind_9 : decode cX11_mind 9 = .ok (.iconst 0, 1) := by decide +kernel
theorem dX11_mind_10 : decode cX11_mind 10 = .ok (.iconst 5, 1) := by decide +kernel
theorem dX11_mind_11 : decode cX11_mind 11 = .ok (.invokestatic 57, 3) := by decide +kernel
theorem dX11_mind_14 : decode cX11_mind 14 = .ok (.ifCond .eq 17, 3) := by decide +kernel
theorem dX11_mind_17 : decode cX11_mind 17 = .ok (.aload_n 0, 1) := by decide +kernel
theorem dX11_mind_18 : decode cX11_mind 18 = .ok (.bipush 19, 2) := by decide +kernel
theorem dX11_mind_20 : decode cX11_mind 20 = .ok (.iconst 4, 1) := by decide +kernel
theorem dX11_mind_21 : decode cX11_mind 21 = .ok (.iload_n 1, 1) := by decide +kernel
theorem dX11_mind_22 : decode cX11_mind 22 = .ok (.imul, 1) := by decide +kernel
theorem dX11_mind_23 : decode cX11_mind 23 = .ok (.iadd, 1) := by decide +kernel
theorem dX11_mind_24 : decode cX11_mind 24 = .ok (.iload_n 2, 1) := by decide +kernel
theorem dX11_mind_25 : decode cX11_mind 25 = .ok (.invokevirtual 168, 3) := by decide +kernel
theorem dX11_mind_28 : decode cX11_mind 28 = .ok (.goto 4, 3) := by decide +kernel
theorem dX11_mind_31 : decode cX11_mind 31 = .ok (.iconst (-1), 1) := by decide +kernel
theorem dX11_mind_32 : decode cX11_mind 32 = .ok (.ireturn, 1) := by decide +kernel
set_option maxRecDepth 20000 in
theorem ggX11_trust_X11_isGoer : GoodIn wsX11_trust wsX11_isGoer := goodIn_r _ [5, 6, 7, 8, 4, 9, 14, 15, 16, 17, 18, 19, 20, 21, 22, 23, 24, 25, 26, 27, 28, 29, 30, 31, 32, 33, 34, 35, 36, 37] (by decide +kernel) (by decide +kernel)
set_option maxRecDepth 20000 in
theorem gX11_trust_X11_isGoer : GoodIn wsX11_trust (wsV RX11 174 RX11 yX11_isGoer wsX11_isGoer) := goodIn_app (goodIn_of _ (by decide +kernel)) ggX11_trust_X11_isGoer
set_option maxRecDepth 20000 in
theorem ggX11_trust_X11_in1 : GoodIn wsX11_trust wsX11_in1 := goodIn_r _ [9] (by decide +kernel) (by decide +kernel)
set_option maxRecDepth 20000 in
theorem gX11_trust_X11_in1 : GoodIn wsX11_trust (va_wsS RX11 57 yX11_in1 wsX11_in1) := goodIn_app (goodIn_of _ (by decide +kernel)) ggX11_trust_X11_in1
set_option maxRecDepth 20000 in
theorem ggX11_trust_X11_becomes : GoodIn wsX11_trust wsX11_becomes := goodIn_r _ [13, 6, 14, 15, 16, 17, 18, 19, 20, 21, 22, 23, 24, 25, 26, 27, 28, 29, 30, 31, 32, 33, 34, 35, 36, 37] (by decide +kernel) (by decide +kernel)
set_option maxRecDepth 20000 in
theorem gX11_trust_X11_becomes : GoodIn wsX11_trust (wsV RX11 168 RX11 yX11_becomes wsX11_becomes) := goodIn_app (goodIn_of _ (by decide +kernel)) ggX11_trust_X11_becomes
theorem dX11_trust_0 : decode cX11_trust 0 = .ok (.aload_n 0, 1) := by decide +kernel
theorem dX11_trust_1 : decode cX11_trust 1 = .ok (.iload_n 1, 1) := by decide +kernel
theorem dX11_trust_2 : decode cX11_trust 2 = .ok (.invokevirtual 174, 3) := by decide +kernel
theorem dX11_trust_5 : decode cX11_trust 5 = .ok (.ifCond .eq 29, 3) := by decide +kernel
theorem dX11_trust_8 : decode cX11_trust 8 = .ok (.iload_n 2, 1) := by decide +kernel
theorem dX11_trust_9 : decode cX11_trust 9 = .ok (.iconst 0, 1) := by decide +kernel
theorem dX11_trust_10 : decode cX11_trust 10 = .ok (.bipush 99, 2) := by decide +kernel
theorem dX11_trust_12 : decode cX11_trust 12 = .ok (.invokestatic 57, 3) := by decide +kernel
theorem dX11_trust_15 : decode cX11_trust 15 = .ok (.ifCond .eq 19, 3) := by decide +kernel
theorem dX11_trust_18 : decode cX11_trust 18 = .ok (.aload_n 0, 1) := by decide +kernel
theorem dX11_trust_19 : decode cX11_trust 19 = .ok (.bipush 19, 2) := by decide +kernel
theorem dX11_trust_21 : decode cX11_trust 21 = .ok (.iconst 4, 1) := by decide +kernel
theorem dX11_trust_22 : decode cX11_trust 22 = .ok (.iload_n 1, 1) := by decide +kernel
theorem dX11_trust_23 : decode cX11_trust 23 = .ok (.imul, 1) := by decide +kernel
theorem dX11_trust_24 : decode cX11_trust 24 = .ok (.iadd, 1) := by decide +kernel
theorem dX11_trust_25 : decode cX11_trust 25 = .ok (.iconst 1, 1) := by decide +kernel
theorem dX11_trust_26 : decode cX11_trust 26 = .ok (.iadd, 1) := by decide +kernel
theorem dX11_trust_27 : decode cX11_trust 27 = .ok (.iload_n 2, 1) := by decide +kernel
theorem dX11_trust_28 : decode cX11_trust 28 = .ok (.invokevirtual 168, 3) := by decide +kernel
theorem dX11_trust_31 : decode cX11_trust 31 = .ok (.goto 4, 3) := by decide +kernel
theorem dX11_trust_34 : decode cX11_trust 34 = .ok (.iconst (-1), 1) := by decide +kernel
theorem dX11_trust_35 : decode cX11_trust 35 = .ok (.ireturn, 1) := by decide +kernel
set_option maxRecDepth 20000 in
theorem ggX11_bring_X11_isGoer : GoodIn wsX11_bring wsX11_isGoer := goodIn_r _ [5, 6, 7, 8, 4, 9, 14, 15, 16, 17, 18, 19, 20, 21, 22, 23, 24, 25, 26, 27, 28, 29, 30, 31, 32, 33, 34, 35, 36, 37] (by decide +kernel) (by decide +kernel)
set_option maxRecDepth 20000 in
theorem gX11_bring_X11_isGoer : GoodIn wsX11_bring (wsV RX11 174 RX11 yX11_isGoer wsX11_isGoer) := goodIn_app (goodIn_of _ (by decide +kernel)) ggX11_bring_X11_isGoer
set_option maxRecDepth 20000 in
theorem ggX11_bring_X11_in1 : GoodIn wsX11_bring wsX11_in1 := goodIn_r _ [9] (by decide +kernel) (by decide +kernel)
set_option maxRecDepth 20000 in
theorem gX11_bring_X11_in1 : GoodIn wsX11_bring (va_wsS RX11 57 yX11_in1 wsX11_in1) := goodIn_app (goodIn_of _ (by decide +kernel)) ggX11_bring_X11_in1
set_option maxRecDepth 20000 in
theorem ggX11_bring_X11_becomes : GoodIn wsX11_bring wsX11_becomes := goodIn_r _ [13, 6, 14, 15, 16, 17, 18, 19, 20, 21, 22, 23, 24, 25, 26, 27, 28, 29, 30, 31, 32, 33, 34, 35, 36, 37] (by decide +kernel) (by decide +kernel)
set_option maxRecDepth 20000 in
theorem gX11_bring_X11_becomes : GoodIn wsX11_bring (wsV RX11 168 RX11 yX11_becomes wsX11_becomes) := goodIn_app (goodIn_of _ (by decide +kernel)) ggX11_bring_X11_becomes
theorem dX11_bring_0 : decode cX11_bring 0 = .ok (.aload_n 0, 1) := by decide +kernel
theorem dX11_bring_1 : decode cX11_bring 1 = .ok (.iload_n 1, 1) := by decide +kernel
theorem dX11_bring_2 : decode cX11_bring 2 = .ok (.invokevirtual 174, 3) := by decide +kernel
theorem dX11_bring_5 : decode cX11_bring 5 = .ok (.ifCond .eq 29, 3) := by decide +kernel
theorem dX11_bring_8 : decode cX11_bring 8 = .ok (.iload_n 2, 1) := by decide +kernel
theorem dX11_bring_9 : decode cX11_bring 9 = .ok (.iconst 0, 1) := by decide +kernel
theorem dX11_bring_10 : decode cX11_bring 10 = .ok (.bipush 12, 2) := by decide +kernel
theorem dX11_bring_12 : decode cX11_bring 12 = .ok (.invokestatic 57, 3) := by decide +kernel
theorem dX11_bring_15 : decode cX11_bring 15 = .ok (.ifCond .eq 19, 3) := by decide +kernel
theorem dX11_bring_18 : decode cX11_bring 18 = .ok (.aload_n 0, 1) := by decide +kernel
theorem dX11_bring_19 : decode cX11_bring 19 = .ok (.bipush 19, 2) := by decide +kernel
theorem dX11_bring_21 : decode cX11_bring 21 = .ok (.iconst 4, 1) := by decide +kernel
theorem dX11_bring_22 : decode cX11_bring 22 = .ok (.iload_n 1, 1) := by decide +kernel
theorem dX11_bring_23 : decode cX11_bring 23 = .ok (.imul, 1) := by decide +kernel
theorem dX11_bring_24 : decode cX11_bring 24 = .ok (.iadd, 1) := by decide +kernel
theorem dX11_bring_25 : decode cX11_bring 25 = .ok (.iconst 2, 1) := by decide +kernel
theorem dX11_bring_26 : decode cX11_bring 26 = .ok (.iadd, 1) := by decide +kernel
theorem dX11_bring_27 : decode cX11_bring 27 = .ok (.iload_n 2, 1) := by decide +kernel
theorem dX11_bring_28 : decode cX11_bring 28 = .ok (.invokevirtual 168, 3) := by decide +kernel
theorem dX11_bring_31 : decode cX11_bring 31 = .ok (.goto 4, 3) := by decide +kernel
theorem dX11_bring_34 : decode cX11_bring 34 = .ok (.iconst (-1), 1) := by decide +kernel
theorem dX11_bring_35 : decode cX11_bring 35 = .ok (.ireturn, 1) := by decide +kernel
set_option maxRecDepth 20000 in
theorem ggX11_steps_X11_in1 : GoodIn wsX11_steps wsX11_in1 := goodIn_r _ [4] (by decide +kernel) (by decide +kernel)
set_option maxRecDepth 20000 in
theorem gX11_steps_X11_in1 : GoodIn wsX11_steps (va_wsS RX11 57 yX11_in1 wsX11_in1) := goodIn_app (goodIn_of _ (by decide +kernel)) ggX11_steps_X11_in1
set_option maxRecDepth 20000 in
theorem ggX11_steps_X11_goes : GoodIn wsX11_steps wsX11_goes := goodIn_r _ [8, 9, 10, 11, 3, 12, 13, 14, 15, 16, 17, 18, 19, 20, 21, 22, 23, 24, 25, 26, 27, 28, 29, 30, 31, 32, 33, 34, 35, 36, 37, 38, 39, 40, 41, 42, 43, 44, 45, 46, 47, 48, 49, 50, 51, 52, 53, 54, 55, 56, 57, 58, 59, 60, 61, 69, 70, 71, 72, 73, 74, 75, 76, 77, 78, 79, 80, 81, 82, 83, 84, 85, 86, 87, 88, 89, 90, 91, 92] (by decide +kernel) (by decide +kernel)
set_option maxRecDepth 20000 in
theorem gX11_steps_X11_goes : GoodIn wsX11_steps (wsV RX11 177 RX11 yX11_goes wsX11_goes) := goodIn_app (goodIn_of _ (by decide +kernel)) ggX11_steps_X11_goes
set_option maxRecDepth 20000 in
theorem ggX11_steps_X11_setOf : GoodIn wsX11_steps wsX11_setOf := goodIn_r _ [65, 13, 15, 16, 17, 3, 18, 19, 20, 21, 22, 31, 32, 33, 34, 35, 36, 37, 38, 39, 40, 41, 42, 43, 44, 45, 46, 69, 70, 71, 72, 73, 74, 75, 76, 77, 78, 79, 80, 81, 82, 83, 84, 85, 86, 87, 88, 89, 90, 91, 92] (by decide +kernel) (by decide +kernel)
set_option maxRecDepth 20000 in
theorem gX11_steps_X11_setOf : GoodIn wsX11_steps (wsV RX11 180 RX11 yX11_setOf wsX11_setOf) := goodIn_app (goodIn_of _ (by decide +kernel)) ggX11_steps_X11_setOf
set_option maxRecDepth 20000 in
theorem ggX11_steps_X11_ones : GoodIn wsX11_steps wsX11_ones := goodIn_r _ [68] (by decide +kernel) (by decide +kernel)
set_option maxRecDepth 20000 in
theorem gX11_steps_X11_ones : GoodIn wsX11_steps (va_wsS RX11 183 yX11_ones wsX11_ones) := goodIn_app (goodIn_of _ (by decide +kernel)) ggX11_steps_X11_ones
theorem dX11_steps_0 : decode cX11_steps 0 = .ok (.iload_n 1, 1) := by decide +kernel
theorem dX11_steps_1 : decode cX11_steps 1 = .ok (.iconst 1, 1) := by decide +kernel
theorem dX11_steps_2 : decode cX11_steps 2 = .ok (.bipush 60, 2) := by decide +kernel
theorem dX11_steps_4 : decode cX11_steps 4 = .ok (.invokestatic 57, 3) := by decide +kernel
theorem dX11_steps_7 : decode cX11_steps 7 = .ok (.ifCond .ne 5, 3) := by decide +kernel
theorem dX11_steps_10 : decode cX11_steps 10 = .ok (.iconst (-1), 1) := by decide +kernel
theorem dX11_steps_11 : decode cX11_steps 11 = .ok (.ireturn, 1) := by decide +kernel
theorem dX11_steps_12 : decode cX11_steps 12 = .ok (.aload_n 0, 1) := by decide +kernel
theorem dX11_steps_13 : decode cX11_steps 13 = .ok (.iload_n 1, 1) := by decide +kernel
theorem dX11_steps_14 : decode cX11_steps 14 = .ok (.invokevirtual 177, 3) := by decide +kernel
theorem dX11_steps_17 : decode cX11_steps 17 = .ok (.aload_n 0, 1) := by decide +kernel
theorem dX11_steps_18 : decode cX11_steps 18 = .ok (.iconst 1, 1) := by decide +kernel
theorem dX11_steps_19 : decode cX11_steps 19 = .ok (.invokevirtual 180, 3) := by decide +kernel
theorem dX11_steps_22 : decode cX11_steps 22 = .ok (.invokestatic 183, 3) := by decide +kernel
theorem dX11_steps_25 : decode cX11_steps 25 = .ok (.ireturn, 1) := by decide +kernel
set_option maxRecDepth 20000 in
theorem ggX11_seed_X11_becomes : GoodIn wsX11_seed wsX11_becomes := goodIn_r _ [5, 6, 7, 8, 9, 10, 11, 12, 13, 14, 15, 16, 17, 18, 19, 20, 21, 22, 23, 24, 25, 26, 27, 28, 29, 30] (by decide +kernel) (by decide +kernel)
set_option maxRecDepth 20000 in
theorem gX11_seed_X11_becomes : GoodIn wsX11_seed (wsV RX11 168 RX11 yX11_becomes wsX11_becomes) := goodIn_app (goodIn_of _ (by decide +kernel)) ggX11_seed_X11_becomes
theorem dX11_seed_0 : decode cX11_seed 0 = .ok (.aload_n 0, 1) := by decide +kernel
theorem dX11_seed_1 : decode cX11_seed 1 = .ok (.iconst 5, 1) := by decide +kernel
theorem dX11_seed_2 : decode cX11_seed 2 = .ok (.iload_n 1, 1) := by decide +kernel
theorem dX11_seed_3 : decode cX11_seed 3 = .ok (.invokevirtual 168, 3) := by decide +kernel
theorem dX11_seed_6 : decode cX11_seed 6 = .ok (.ireturn, 1) := by decide +kernel
theorem dX11_draw_0 : decode cX11_draw 0 = .ok (.aload_n 0, 1) := by decide +kernel
theorem dX11_draw_1 : decode cX11_draw 1 = .ok (.getfield 9, 3) := by decide +kernel
theorem dX11_draw_4 : decode cX11_draw 4 = .ok (.iconst 5, 1) := by decide +kernel
theorem dX11_draw_5 : decode cX11_draw 5 = .ok (.aload_n 0, 1) := by decide +kernel
theorem dX11_draw_6 : decode cX11_draw 6 = .ok (.getfield 9, 3) := by decide +kernel
theorem dX11_draw_9 : decode cX11_draw 9 = .ok (.iconst 5, 1) := by decide +kernel
theorem dX11_draw_10 : decode cX11_draw 10 = .ok (.iaload, 1) := by decide +kernel
theorem dX11_draw_11 : decode cX11_draw 11 = .ok (.ldc 186, 2) := by decide +kernel
theorem dX11_draw_13 : decode cX11_draw 13 = .ok (.imul, 1) := by decide +kernel
theorem dX11_draw_14 : decode cX11_draw 14 = .ok (.sipush 12345, 3) := by decide +kernel
theorem dX11_draw_17 : decode cX11_draw 17 = .ok (.iadd, 1) := by decide +kernel
theorem dX11_draw_18 : decode cX11_draw 18 = .ok (.iastore, 1) := by decide +kernel
theorem dX11_draw_19 : decode cX11_draw 19 = .ok (.aload_n 0, 1) := by decide +kernel
theorem dX11_draw_20 : decode cX11_draw 20 = .ok (.getfield 9, 3) := by decide +kernel
theorem dX11_draw_23 : decode cX11_draw 23 = .ok (.iconst 5, 1) := by decide +kernel
theorem dX11_draw_24 : decode cX11_draw 24 = .ok (.iaload, 1) := by decide +kernel
theorem dX11_draw_25 : decode cX11_draw 25 = .ok (.bipush 16, 2) := by decide +kernel
theorem dX11_draw_27 : decode cX11_draw 27 = .ok (.iushr, 1) := by decide +kernel
theorem dX11_draw_28 : decode cX11_draw 28 = .ok (.ireturn, 1) := by decide +kernel
set_option maxRecDepth 20000 in
theorem ggX11_byDraws_X11_draw : GoodIn wsX11_byDraws wsX11_draw := goodIn_r _ [6, 1, 7, 60, 61, 62, 63, 64, 65, 66, 67, 68, 69, 70, 71, 72, 73, 74, 75, 76, 77, 78, 79, 80, 81, 82, 83] (by decide +kernel) (by decide +kernel)
set_option maxRecDepth 20000 in
theorem gX11_byDraws_X11_draw : GoodIn wsX11_byDraws (wsV RX11 187 RX11 yX11_draw wsX11_draw) := goodIn_app (goodIn_of _ (by decide +kernel)) ggX11_byDraws_X11_draw
set_option maxRecDepth 20000 in
theorem ggX11_byDraws_X11_get : GoodIn wsX11_byDraws wsX11_get := goodIn_r _ [11, 1, 60, 61, 62, 63, 64, 65, 66, 67, 68, 69, 70, 71, 72, 73, 74, 75, 76, 77, 78, 79, 80, 81, 82, 83] (by decide +kernel) (by decide +kernel)
set_option maxRecDepth 20000 in
theorem gX11_byDraws_X11_get : GoodIn wsX11_byDraws (wsV RX11 61 RX11 yX11_get wsX11_get) := goodIn_app (goodIn_of _ (by decide +kernel)) ggX11_byDraws_X11_get
set_option maxRecDepth 20000 in
theorem ggX11_byDraws_X11_puts : GoodIn wsX11_byDraws wsX11_puts := goodIn_r _ [15, 1, 60, 61, 62, 63, 64, 65, 66, 67, 68, 69, 70, 71, 72, 73, 74, 75, 76, 77, 78, 79, 80, 81, 82, 83] (by decide +kernel) (by decide +kernel)
set_option maxRecDepth 20000 in
theorem gX11_byDraws_X11_puts : GoodIn wsX11_byDraws (wsV RX11 92 RX11 yX11_puts wsX11_puts) := goodIn_app (goodIn_of _ (by decide +kernel)) ggX11_byDraws_X11_puts
set_option maxRecDepth 20000 in
theorem ggX11_byDraws_X11_step1 : GoodIn wsX11_byDraws wsX11_step1 := goodIn_r _ [19, 1, 20, 21, 22, 23, 5, 24, 8, 9, 10, 11, 25, 26, 27, 28, 29, 30, 31, 32, 33, 34, 35, 36, 37, 38, 39, 40, 41, 42, 43, 44, 45, 46, 47, 48, 49, 50, 51, 52, 53, 54, 55, 56, 57, 58, 59, 12, 13, 14, 15, 60, 61, 62, 63, 64, 65, 66, 67, 68, 69, 70, 71, 72, 73, 74, 75, 76, 77, 78, 79, 80, 81, 82, 83] (by decide +kernel) (by decide +kernel)
set_option maxRecDepth 20000 in
theorem gX11_byDraws_X11_step1 : GoodIn wsX11_byDraws (wsV RX11 103 RX11 yX11_step1 wsX11_step1) := goodIn_app (goodIn_of _ (by decide +kernel)) ggX11_byDraws_X11_step1
theorem dX11_byDraws_0 : decode cX11_byDraws 0 = .ok (.aload_n 0, 1) := by decide +kernel
theorem dX11_byDraws_1 : decode cX11_byDraws 1 = .ok (.getfield 9, 3) := by decide +kernel
theorem dX11_byDraws_4 : decode cX11_byDraws 4 = .ok (.bipush 6, 2) := by decide +kernel
theorem dX11_byDraws_6 : decode cX11_byDraws 6 = .ok (.iaload, 1) := by decide +kernel
theorem dX11_byDraws_7 : decode cX11_byDraws 7 = .ok (.ifCond .le 47, 3) := by decide +kernel
theorem dX11_byDraws_10 : decode cX11_byDraws 10 = .ok (.aload_n 0, 1) := by decide +kernel
theorem dX11_byDraws_11 : decode cX11_byDraws 11 = .ok (.invokevirtual 187, 3) := by decide +kernel
theorem dX11_byDraws_14 : decode cX11_byDraws 14 = .ok (.aload_n 0, 1) := by decide +kernel
theorem dX11_byDraws_15 : decode cX11_byDraws 15 = .ok (.getfield 9, 3) := by decide +kernel
theorem dX11_byDraws_18 : decode cX11_byDraws 18 = .ok (.bipush 6, 2) := by decide +kernel
theorem dX11_byDraws_20 : decode cX11_byDraws 20 = .ok (.iaload, 1) := by decide +kernel
theorem dX11_byDraws_21 : decode cX11_byDraws 21 = .ok (.irem, 1) := by decide +kernel
theorem dX11_byDraws_22 : decode cX11_byDraws 22 = .ok (.istore_n 1, 1) := by decide +kernel
theorem dX11_byDraws_23 : decode cX11_byDraws 23 = .ok (.aload_n 0, 1) := by decide +kernel
theorem dX11_byDraws_24 : decode cX11_byDraws 24 = .ok (.invokevirtual 187, 3) := by decide +kernel
theorem dX11_byDraws_27 : decode cX11_byDraws 27 = .ok (.bipush 100, 2) := by decide +kernel
theorem dX11_byDraws_29 : decode cX11_byDraws 29 = .ok (.irem, 1) := by decide +kernel
theorem dX11_byDraws_30 : decode cX11_byDraws 30 = .ok (.aload_n 0, 1) := by decide +kernel
theorem dX11_byDraws_31 : decode cX11_byDraws 31 = .ok (.getfield 9, 3) := by decide +kernel
theorem dX11_byDraws_34 : decode cX11_byDraws 34 = .ok (.iconst 4, 1) := by decide +kernel
theorem dX11_byDraws_35 : decode cX11_byDraws 35 = .ok (.iaload, 1) := by decide +kernel
theorem dX11_byDraws_36 : decode cX11_byDraws 36 = .ok (.if_icmp .ge 18, 3) := by decide +kernel
theorem dX11_byDraws_39 : decode cX11_byDraws 39 = .ok (.aload_n 0, 1) := by decide +kernel
theorem dX11_byDraws_40 : decode cX11_byDraws 40 = .ok (.iload_n 1, 1) := by decide +kernel
theorem dX11_byDraws_41 : decode cX11_byDraws 41 = .ok (.iconst 1, 1) := by decide +kernel
theorem dX11_byDraws_42 : decode cX11_byDraws 42 = .ok (.bipush 99, 2) := by decide +kernel
theorem dX11_byDraws_44 : decode cX11_byDraws 44 = .ok (.aload_n 0, 1) := by decide +kernel
theorem dX11_byDraws_45 : decode cX11_byDraws 45 = .ok (.iload_n 1, 1) := by decide +kernel
theorem dX11_byDraws_46 : decode cX11_byDraws 46 = .ok (.iconst 1, 1) := by decide +kernel
theorem dX11_byDraws_47 : decode cX11_byDraws 47 = .ok (.invokevirtual 61, 3) := by decide +kernel
theorem dX11_byDraws_50 : decode cX11_byDraws 50 = .ok (.isub, 1) := by decide +kernel
theorem dX11_byDraws_51 : decode cX11_byDraws 51 = .ok (.invokevirtual 92, 3) := by decide +kernel
theorem dX11_byDraws_54 : decode cX11_byDraws 54 = .ok (.aload_n 0, 1) := by decide +kernel
theorem dX11_byDraws_55 : decode cX11_byDraws 55 = .ok (.invokevirtual 103, 3) := by decide +kernel
theorem dX11_byDraws_58 : decode cX11_byDraws 58 = .ok (.return_, 1) := by decide +kernel
set_option maxRecDepth 20000 in
theorem ggX11_step_X11_byDraws : GoodIn wsX11_step wsX11_byDraws := goodIn_r _ [5, 6, 7, 8, 9, 4, 10, 11, 12, 13, 14, 15, 16, 17, 18, 19, 20, 21, 22, 23, 24, 25, 26, 27, 28, 29, 30, 31, 32, 33, 34, 35, 36, 37, 38, 39, 40, 41, 42, 43, 44, 45, 46, 47, 48, 49, 50, 51, 52, 53, 54, 55, 56, 57, 58, 59, 60, 61, 62, 63, 71, 72, 73, 74, 75, 76, 77, 78, 79, 80, 81, 82, 83, 84, 85, 86, 87, 88, 89, 90, 91, 92, 93, 94] (by decide +kernel) (by decide +kernel)
set_option maxRecDepth 20000 in
theorem gX11_step_X11_byDraws : GoodIn wsX11_step (wsV RX11 190 RX11 yX11_byDraws wsX11_byDraws) := goodIn_app (goodIn_of _ (by decide +kernel)) ggX11_step_X11_byDraws
set_option maxRecDepth 20000 in
theorem ggX11_step_X11_setOf : GoodIn wsX11_step wsX11_setOf := goodIn_r _ [67, 6, 25, 26, 27, 4, 28, 12, 13, 14, 15, 37, 38, 39, 40, 41, 42, 43, 44, 45, 46, 47, 48, 49, 50, 51, 52, 71, 72, 73, 74, 75, 76, 77, 78, 79, 80, 81, 82, 83, 84, 85, 86, 87, 88, 89, 90, 91, 92, 93, 94] (by decide +kernel) (by decide +kernel)
set_option maxRecDepth 20000 in
theorem gX11_step_X11_setOf : GoodIn wsX11_step (wsV RX11 180 RX11 yX11_setOf wsX11_setOf) := goodIn_app (goodIn_of _ (by decide +kernel)) ggX11_step_X11_setOf
set_option maxRecDepth 20000 in
theorem ggX11_step_X11_ones : GoodIn wsX11_step wsX11_ones := goodIn_r _ [70] (by decide +kernel) (by decide +kernel)
set_option maxRecDepth 20000 in
theorem gX11_step_X11_ones : GoodIn wsX11_step (va_wsS RX11 183 yX11_ones wsX11_ones) := goodIn_app (goodIn_of _ (by decide +kernel)) ggX11_step_X11_ones
theorem dX11_step_0 : decode cX11_step 0 = .ok (.aload_n 0, 1) := by decide +kernel
theorem dX11_step_1 : decode cX11_step 1 = .ok (.invokevirtual 190, 3) := by decide +kernel
theorem dX11_step_4 : decode cX11_step 4 = .ok (.aload_n 0, 1) := by decide +kernel
theorem dX11_step_5 : decode cX11_step 5 = .ok (.iconst 1, 1) := by decide +kernel
theorem dX11_step_6 : decode cX11_step 6 = .ok (.invokevirtual 180, 3) := by decide +kernel
theorem dX11_step_9 : decode cX11_step 9 = .ok (.invokestatic 183, 3) := by decide +kernel
theorem dX11_step_12 : decode cX11_step 12 = .ok (.ireturn, 1) := by decide +kernel
set_option maxRecDepth 20000 in
theorem ggX11_luck_X11_in1 : GoodIn wsX11_luck wsX11_in1 := goodIn_r _ [6] (by decide +kernel) (by decide +kernel)
set_option maxRecDepth 20000 in
theorem gX11_luck_X11_in1 : GoodIn wsX11_luck (va_wsS RX11 57 yX11_in1 wsX11_in1) := goodIn_app (goodIn_of _ (by decide +kernel)) ggX11_luck_X11_in1
set_option maxRecDepth 20000 in
theorem ggX11_luck_X11_copies : GoodIn wsX11_luck wsX11_copies := goodIn_r _ [9] (by decide +kernel) (by decide +kernel)
set_option maxRecDepth 20000 in
theorem gX11_luck_X11_copies : GoodIn wsX11_luck (va_wsS RX11 158 yX11_copies wsX11_copies) := goodIn_app (goodIn_of _ (by decide +kernel)) ggX11_luck_X11_copies
set_option maxRecDepth 20000 in
theorem ggX11_luck_X11_step1 : GoodIn wsX11_luck wsX11_step1 := goodIn_r _ [13, 1, 14, 15, 16, 17, 5, 18, 19, 20, 21, 22, 23, 24, 25, 26, 27, 28, 29, 30, 31, 32, 33, 34, 35, 36, 37, 38, 39, 40, 41, 42, 43, 44, 45, 46, 47, 48, 49, 50, 51, 52, 53, 54, 55, 56, 57, 58, 59, 60, 61, 75, 76, 77, 78, 79, 80, 81, 82, 83, 84, 85, 86, 87, 88, 89, 90, 91, 92, 93, 94, 95, 96, 97, 98] (by decide +kernel) (by decide +kernel)
set_option maxRecDepth 20000 in
theorem gX11_luck_X11_step1 : GoodIn wsX11_luck (wsV RX11 103 RX11 yX11_step1 wsX11_step1) := goodIn_app (goodIn_of _ (by decide +kernel)) ggX11_luck_X11_step1
set_option maxRecDepth 20000 in
theorem ggX11_luck_X11_sumOf : GoodIn wsX11_luck wsX11_sumOf := goodIn_r _ [65, 1, 19, 20, 21, 5, 22, 75, 76, 77, 78, 79, 80, 81, 82, 83, 84, 85, 86, 87, 88, 89, 90, 91, 92, 93, 94, 95, 96, 97, 98] (by decide +kernel) (by decide +kernel)
set_option maxRecDepth 20000 in
theorem gX11_luck_X11_sumOf : GoodIn wsX11_luck (wsV RX11 193 RX11 yX11_sumOf wsX11_sumOf) := goodIn_app (goodIn_of _ (by decide +kernel)) ggX11_luck_X11_sumOf
set_option maxRecDepth 20000 in
theorem ggX11_luck_X11_byDraws : GoodIn wsX11_luck wsX11_byDraws := goodIn_r _ [69, 1, 70, 71, 72, 5, 73, 74, 19, 20, 21, 22, 58, 59, 60, 61, 10, 11, 12, 13, 14, 15, 16, 17, 18, 23, 24, 25, 26, 27, 28, 29, 30, 31, 32, 33, 34, 35, 36, 37, 38, 39, 40, 41, 42, 43, 44, 45, 46, 47, 48, 49, 50, 51, 52, 53, 54, 55, 56, 57, 75, 76, 77, 78, 79, 80, 81, 82, 83, 84, 85, 86, 87, 88, 89, 90, 91, 92, 93, 94, 95, 96, 97, 98] (by decide +kernel) (by decide +kernel)
set_option maxRecDepth 20000 in
theorem gX11_luck_X11_byDraws : GoodIn wsX11_luck (wsV RX11 190 RX11 yX11_byDraws wsX11_byDraws) := goodIn_app (goodIn_of _ (by decide +kernel)) ggX11_luck_X11_byDraws
theorem dX11_luck_0 : decode cX11_luck 0 = .ok (.iload_n 1, 1) := by decide +kernel
theorem dX11_luck_1 : decode cX11_luck 1 = .ok (.iconst 1, 1) := by decide +kernel
theorem dX11_luck_2 : decode cX11_luck 2 = .ok (.bipush 30, 2) := by decide +kernel
theorem dX11_luck_4 : decode cX11_luck 4 = .ok (.invokestatic 57, 3) := by decide +kernel
theorem dX11_luck_7 : decode cX11_luck 7 = .ok (.ifCond .ne 5, 3) := by decide +kernel
theorem dX11_luck_10 : decode cX11_luck 10 = .ok (.iconst (-1), 1) := by decide +kernel
theorem dX11_luck_11 : decode cX11_luck 11 = .ok (.ireturn, 1) := by decide +kernel
theorem dX11_luck_12 : decode cX11_luck 12 = .ok (.aload_n 0, 1) := by decide +kernel
theorem dX11_luck_13 : decode cX11_luck 13 = .ok (.getfield 9, 3) := by decide +kernel
theorem dX11_luck_16 : decode cX11_luck 16 = .ok (.aload_n 0, 1) := by decide +kernel
theorem dX11_luck_17 : decode cX11_luck 17 = .ok (.getfield 16, 3) := by decide +kernel
theorem dX11_luck_20 : decode cX11_luck 20 = .ok (.invokestatic 158, 3) := by decide +kernel
theorem dX11_luck_23 : decode cX11_luck 23 = .ok (.aload_n 0, 1) := by decide +kernel
theorem dX11_luck_24 : decode cX11_luck 24 = .ok (.invokevirtual 103, 3) := by decide +kernel
theorem dX11_luck_27 : decode cX11_luck 27 = .ok (.aload_n 0, 1) := by decide +kernel
theorem dX11_luck_28 : decode cX11_luck 28 = .ok (.iconst 2, 1) := by decide +kernel
theorem dX11_luck_29 : decode cX11_luck 29 = .ok (.invokevirtual 193, 3) := by decide +kernel
theorem dX11_luck_32 : decode cX11_luck 32 = .ok (.istore_n 2, 1) := by decide +kernel
theorem dX11_luck_33 : decode cX11_luck 33 = .ok (.aload_n 0, 1) := by decide +kernel
theorem dX11_luck_34 : decode cX11_luck 34 = .ok (.getfield 16, 3) := by decide +kernel
theorem dX11_luck_37 : decode cX11_luck 37 = .ok (.aload_n 0, 1) := by decide +kernel
theorem dX11_luck_38 : decode cX11_luck 38 = .ok (.getfield 9, 3) := by decide +kernel
theorem dX11_luck_41 : decode cX11_luck 41 = .ok (.invokestatic 158, 3) := by decide +kernel
theorem dX11_luck_44 : decode cX11_luck 44 = .ok (.iconst 0, 1) := by decide +kernel
theorem dX11_luck_45 : decode cX11_luck 45 = .ok (.istore_n 3, 1) := by decide +kernel
theorem dX11_luck_46 : decode cX11_luck 46 = .ok (.iconst 0, 1) := by decide +kernel
theorem dX11_luck_47 : decode cX11_luck 47 = .ok (.istore 4, 2) := by decide +kernel
theorem dX11_luck_49 : decode cX11_luck 49 = .ok (.iload 4, 2) := by decide +kernel
theorem dX11_luck_51 : decode cX11_luck 51 = .ok (.iload_n 1, 1) := by decide +kernel
theorem dX11_luck_52 : decode cX11_luck 52 = .ok (.if_icmp .ge 57, 3) := by decide +kernel
theorem dX11_luck_55 : decode cX11_luck 55 = .ok (.aload_n 0, 1) := by decide +kernel
theorem dX11_luck_56 : decode cX11_luck 56 = .ok (.invokevirtual 190, 3) := by decide +kernel
theorem dX11_luck_59 : decode cX11_luck 59 = .ok (.iload_n 3, 1) := by decide +kernel
theorem dX11_luck_60 : decode cX11_luck 60 = .ok (.aload_n 0, 1) := by decide +kernel
theorem dX11_luck_61 : decode cX11_luck 61 = .ok (.iconst 2, 1) := by decide +kernel
theorem dX11_luck_62 : decode cX11_luck 62 = .ok (.invokevirtual 193, 3) := by decide +kernel
theorem dX11_luck_65 : decode cX11_luck 65 = .ok (.iload_n 2, 1) := by decide +kernel
theorem dX11_luck_66 : decode cX11_luck 66 = .ok (.if_icmp .le 7, 3) := by decide +kernel
theorem dX11_luck_69 : decode cX11_luck 69 = .ok (.iconst 1, 1) := by decide +kernel
theorem dX11_luck_70 : decode cX11_luck 70 = .ok (.goto 4, 3) := by decide +kernel
theorem dX11_luck_73 : decode cX11_luck 73 = .ok (.iconst 0, 1) := by decide +kernel
theorem dX11_luck_74 : decode cX11_luck 74 = .ok (.iadd, 1) := by decide +kernel
theorem dX11_luck_75 : decode cX11_luck 75 = .ok (.istore_n 3, 1) := by decide +kernel
theorem dX11_luck_76 : decode cX11_luck 76 = .ok (.aload_n 0, 1) := by decide +kernel
theorem dX11_luck_77 : decode cX11_luck 77 = .ok (.getfield 9, 3) := by decide +kernel
theorem dX11_luck_80 : decode cX11_luck 80 = .ok (.iconst 5, 1) := by decide +kernel
theorem dX11_luck_81 : decode cX11_luck 81 = .ok (.iaload, 1) := by decide +kernel
theorem dX11_luck_82 : decode cX11_luck 82 = .ok (.istore 5, 2) := by decide +kernel
theorem dX11_luck_84 : decode cX11_luck 84 = .ok (.aload_n 0, 1) := by decide +kernel
theorem dX11_luck_85 : decode cX11_luck 85 = .ok (.getfield 16, 3) := by decide +kernel
theorem dX11_luck_88 : decode cX11_luck 88 = .ok (.aload_n 0, 1) := by decide +kernel
theorem dX11_luck_89 : decode cX11_luck 89 = .ok (.getfield 9, 3) := by decide +kernel
theorem dX11_luck_92 : decode cX11_luck 92 = .ok (.invokestatic 158, 3) := by decide +kernel
theorem dX11_luck_95 : decode cX11_luck 95 = .ok (.aload_n 0, 1) := by decide +kernel
theorem dX11_luck_96 : decode cX11_luck 96 = .ok (.getfield 9, 3) := by decide +kernel
theorem dX11_luck_99 : decode cX11_luck 99 = .ok (.iconst 5, 1) := by decide +kernel
theorem dX11_luck_100 : decode cX11_luck 100 = .ok (.iload 5, 2) := by decide +kernel
theorem dX11_luck_102 : decode cX11_luck 102 = .ok (.iastore, 1) := by decide +kernel
theorem dX11_luck_103 : decode cX11_luck 103 = .ok (.iinc 4 1, 3) := by decide +kernel
theorem dX11_luck_106 : decode cX11_luck 106 = .ok (.goto (-57), 3) := by decide +kernel
theorem dX11_luck_109 : decode cX11_luck 109 = .ok (.aload_n 0, 1) := by decide +kernel
theorem dX11_luck_110 : decode cX11_luck 110 = .ok (.getfield 16, 3) := by decide +kernel
theorem dX11_luck_113 : decode cX11_luck 113 = .ok (.aload_n 0, 1) := by decide +kernel
theorem dX11_luck_114 : decode cX11_luck 114 = .ok (.getfield 9, 3) := by decide +kernel
theorem dX11_luck_117 : decode cX11_luck 117 = .ok (.invokestatic 158, 3) := by decide +kernel
theorem dX11_luck_120 : decode cX11_luck 120 = .ok (.iload_n 3, 1) := by decide +kernel
theorem dX11_luck_121 : decode cX11_luck 121 = .ok (.ireturn, 1) := by decide +kernel
set_option maxRecDepth 20000 in
theorem ggX11_state_X11_setOf : GoodIn wsX11_state wsX11_setOf := goodIn_r _ [6, 1, 7, 8, 9, 5, 10, 11, 12, 13, 14, 15, 16, 17, 18, 19, 20, 21, 22, 23, 24, 25, 26, 27, 28, 29, 30, 35, 36, 37, 38, 39, 40, 41, 42, 43, 44, 45, 46, 47, 48, 49, 50, 51, 52, 53, 54, 55, 56, 57, 58] (by decide +kernel) (by decide +kernel)
set_option maxRecDepth 20000 in
theorem gX11_state_X11_setOf : GoodIn wsX11_state (wsV RX11 180 RX11 yX11_setOf wsX11_setOf) := goodIn_app (goodIn_of _ (by decide +kernel)) ggX11_state_X11_setOf
set_option maxRecDepth 20000 in
theorem ggX11_state_X11_sumOf : GoodIn wsX11_state wsX11_sumOf := goodIn_r _ [34, 1, 11, 12, 13, 5, 14, 35, 36, 37, 38, 39, 40, 41, 42, 43, 44, 45, 46, 47, 48, 49, 50, 51, 52, 53, 54, 55, 56, 57, 58] (by decide +kernel) (by decide +kernel)
set_option maxRecDepth 20000 in
theorem gX11_state_X11_sumOf : GoodIn wsX11_state (wsV RX11 193 RX11 yX11_sumOf wsX11_sumOf) := goodIn_app (goodIn_of _ (by decide +kernel)) ggX11_state_X11_sumOf
theorem dX11_state_0 : decode cX11_state 0 = .ok (.iload_n 1, 1) := by decide +kernel
theorem dX11_state_1 : decode cX11_state 1 = .ok (.tableswitch 85 0 5 #[39, 46, 46, 52, 58, 64], 39) := by decide +kernel
theorem dX11_state_40 : decode cX11_state 40 = .ok (.aload_n 0, 1) := by decide +kernel
theorem dX11_state_41 : decode cX11_state 41 = .ok (.getfield 9, 3) := by decide +kernel
theorem dX11_state_44 : decode cX11_state 44 = .ok (.iconst 0, 1) := by decide +kernel
theorem dX11_state_45 : decode cX11_state 45 = .ok (.iaload, 1) := by decide +kernel
theorem dX11_state_46 : decode cX11_state 46 = .ok (.ireturn, 1) := by decide +kernel
theorem dX11_state_47 : decode cX11_state 47 = .ok (.aload_n 0, 1) := by decide +kernel
theorem dX11_state_48 : decode cX11_state 48 = .ok (.iload_n 1, 1) := by decide +kernel
theorem dX11_state_49 : decode cX11_state 49 = .ok (.invokevirtual 180, 3) := by decide +kernel
theorem dX11_state_52 : decode cX11_state 52 = .ok (.ireturn, 1) := by decide +kernel
theorem dX11_state_53 : decode cX11_state 53 = .ok (.aload_n 0, 1) := by decide +kernel
theorem dX11_state_54 : decode cX11_state 54 = .ok (.iconst 1, 1) := by decide +kernel
theorem dX11_state_55 : decode cX11_state 55 = .ok (.invokevirtual 193, 3) := by decide +kernel
theorem dX11_state_58 : decode cX11_state 58 = .ok (.ireturn, 1) := by decide +kernel
theorem dX11_state_59 : decode cX11_state 59 = .ok (.aload_n 0, 1) := by decide +kernel
theorem dX11_state_60 : decode cX11_state 60 = .ok (.iconst 2, 1) := by decide +kernel
theorem dX11_state_61 : decode cX11_state 61 = .ok (.invokevirtual 193, 3) := by decide +kernel
theorem dX11_state_64 : decode cX11_state 64 = .ok (.ireturn, 1) := by decide +kernel
theorem dX11_state_65 : decode cX11_state 65 = .ok (.aload_n 0, 1) := by decide +kernel
theorem dX11_state_66 : decode cX11_state 66 = .ok (.getfield 9, 3) := by decide +kernel
theorem dX11_state_69 : decode cX11_state 69 = .ok (.iconst 3, 1) := by decide +kernel
theorem dX11_state_70 : decode cX11_state 70 = .ok (.iaload, 1) := by decide +kernel
theorem dX11_state_71 : decode cX11_state 71 = .ok (.aload_n 0, 1) := by decide +kernel
theorem dX11_state_72 : decode cX11_state 72 = .ok (.getfield 9, 3) := by decide +kernel
theorem dX11_state_75 : decode cX11_state 75 = .ok (.iconst 2, 1) := by decide +kernel
theorem dX11_state_76 : decode cX11_state 76 = .ok (.iaload, 1) := by decide +kernel
theorem dX11_state_77 : decode cX11_state 77 = .ok (.if_icmp .ge 7, 3) := by decide +kernel
theorem dX11_state_80 : decode cX11_state 80 = .ok (.iconst 1, 1) := by decide +kernel
theorem dX11_state_81 : decode cX11_state 81 = .ok (.goto 4, 3) := by decide +kernel
theorem dX11_state_84 : decode cX11_state 84 = .ok (.iconst 0, 1) := by decide +kernel
theorem dX11_state_85 : decode cX11_state 85 = .ok (.ireturn, 1) := by decide +kernel
theorem dX11_state_86 : decode cX11_state 86 = .ok (.iconst (-1), 1) := by decide +kernel
theorem dX11_state_87 : decode cX11_state 87 = .ok (.ireturn, 1) := by decide +kernel
set_option maxRecDepth 20000 in
theorem ggX11_where_X11_isGoer : GoodIn wsX11_where wsX11_isGoer := goodIn_r _ [7, 1, 8, 9, 6, 10, 70, 71, 72, 73, 74, 75, 76, 77, 78, 79, 80, 81, 82, 83, 84, 85, 86, 87, 88, 89, 90, 91, 92, 93] (by decide +kernel) (by decide +kernel)
set_option maxRecDepth 20000 in
theorem gX11_where_X11_isGoer : GoodIn wsX11_where (wsV RX11 174 RX11 yX11_isGoer wsX11_isGoer) := goodIn_app (goodIn_of _ (by decide +kernel)) ggX11_where_X11_isGoer
set_option maxRecDepth 20000 in
theorem ggX11_where_X11_in1 : GoodIn wsX11_where wsX11_in1 := goodIn_r _ [10] (by decide +kernel) (by decide +kernel)
set_option maxRecDepth 20000 in
theorem gX11_where_X11_in1 : GoodIn wsX11_where (va_wsS RX11 57 yX11_in1 wsX11_in1) := goodIn_app (goodIn_of _ (by decide +kernel)) ggX11_where_X11_in1
set_option maxRecDepth 20000 in
theorem ggX11_where_X11_copies : GoodIn wsX11_where wsX11_copies := goodIn_r _ [13] (by decide +kernel) (by decide +kernel)
set_option maxRecDepth 20000 in
theorem gX11_where_X11_copies : GoodIn wsX11_where (va_wsS RX11 158 yX11_copies wsX11_copies) := goodIn_app (goodIn_of _ (by decide +kernel)) ggX11_where_X11_copies
set_option maxRecDepth 20000 in
theorem ggX11_where_X11_goes : GoodIn wsX11_where wsX11_goes := goodIn_r _ [17, 18, 19, 20, 6, 21, 1, 22, 23, 24, 25, 26, 27, 28, 29, 30, 31, 32, 33, 34, 35, 36, 37, 38, 39, 40, 41, 42, 43, 44, 45, 46, 47, 48, 49, 50, 51, 52, 53, 54, 55, 56, 57, 58, 59, 60, 61, 62, 63, 64, 65, 66, 67, 68, 69, 70, 71, 72, 73, 74, 75, 76, 77, 78, 79, 80, 81, 82, 83, 84, 85, 86, 87, 88, 89, 90, 91, 92, 93] (by decide +kernel) (by decide +kernel)
set_option maxRecDepth 20000 in
theorem gX11_where_X11_goes : GoodIn wsX11_where (wsV RX11 177 RX11 yX11_goes wsX11_goes) := goodIn_app (goodIn_of _ (by decide +kernel)) ggX11_where_X11_goes
set_option maxRecDepth 20000 in
theorem ggX11_where_X11_get : GoodIn wsX11_where wsX11_get := goodIn_r _ [30, 1, 70, 71, 72, 73, 74, 75, 76, 77, 78, 79, 80, 81, 82, 83, 84, 85, 86, 87, 88, 89, 90, 91, 92, 93] (by decide +kernel) (by decide +kernel)
set_option maxRecDepth 20000 in
theorem gX11_where_X11_get : GoodIn wsX11_where (wsV RX11 61 RX11 yX11_get wsX11_get) := goodIn_app (goodIn_of _ (by decide +kernel)) ggX11_where_X11_get
theorem dX11_where_0 : decode cX11_where 0 = .ok (.aload_n 0, 1) := by decide +kernel
theorem dX11_where_1 : decode cX11_where 1 = .ok (.iload_n 1, 1) := by decide +kernel
theorem dX11_where_2 : decode cX11_where 2 = .ok (.invokevirtual 174, 3) := by decide +kernel
theorem dX11_where_5 : decode cX11_where 5 = .ok (.ifCond .eq 13, 3) := by decide +kernel
theorem dX11_where_8 : decode cX11_where 8 = .ok (.iload_n 2, 1) := by decide +kernel
theorem dX11_where_9 : decode cX11_where 9 = .ok (.iconst 0, 1) := by decide +kernel
theorem dX11_where_10 : decode cX11_where 10 = .ok (.bipush 60, 2) := by decide +kernel
theorem dX11_where_12 : decode cX11_where 12 = .ok (.invokestatic 57, 3) := by decide +kernel
theorem dX11_where_15 : decode cX11_where 15 = .ok (.ifCond .ne 5, 3) := by decide +kernel
theorem dX11_where_18 : decode cX11_where 18 = .ok (.iconst (-1), 1) := by decide +kernel
theorem dX11_where_19 : decode cX11_where 19 = .ok (.ireturn, 1) := by decide +kernel
theorem dX11_where_20 : decode cX11_where 20 = .ok (.aload_n 0, 1) := by decide +kernel
theorem dX11_where_21 : decode cX11_where 21 = .ok (.getfield 9, 3) := by decide +kernel
theorem dX11_where_24 : decode cX11_where 24 = .ok (.aload_n 0, 1) := by decide +kernel
theorem dX11_where_25 : decode cX11_where 25 = .ok (.getfield 16, 3) := by decide +kernel
theorem dX11_where_28 : decode cX11_where 28 = .ok (.invokestatic 158, 3) := by decide +kernel
theorem dX11_where_31 : decode cX11_where 31 = .ok (.aload_n 0, 1) := by decide +kernel
theorem dX11_where_32 : decode cX11_where 32 = .ok (.iload_n 2, 1) := by decide +kernel
theorem dX11_where_33 : decode cX11_where 33 = .ok (.invokevirtual 177, 3) := by decide +kernel
theorem dX11_where_36 : decode cX11_where 36 = .ok (.aload_n 0, 1) := by decide +kernel
theorem dX11_where_37 : decode cX11_where 37 = .ok (.iload_n 1, 1) := by decide +kernel
theorem dX11_where_38 : decode cX11_where 38 = .ok (.iconst 2, 1) := by decide +kernel
theorem dX11_where_39 : decode cX11_where 39 = .ok (.invokevirtual 61, 3) := by decide +kernel
theorem dX11_where_42 : decode cX11_where 42 = .ok (.istore_n 3, 1) := by decide +kernel
theorem dX11_where_43 : decode cX11_where 43 = .ok (.aload_n 0, 1) := by decide +kernel
theorem dX11_where_44 : decode cX11_where 44 = .ok (.getfield 16, 3) := by decide +kernel
theorem dX11_where_47 : decode cX11_where 47 = .ok (.aload_n 0, 1) := by decide +kernel
theorem dX11_where_48 : decode cX11_where 48 = .ok (.getfield 9, 3) := by decide +kernel
theorem dX11_where_51 : decode cX11_where 51 = .ok (.invokestatic 158, 3) := by decide +kernel
theorem dX11_where_54 : decode cX11_where 54 = .ok (.iload_n 3, 1) := by decide +kernel
theorem dX11_where_55 : decode cX11_where 55 = .ok (.ireturn, 1) := by decide +kernel
set_option maxRecDepth 20000 in
theorem ggX11_comesBy_X11_isThrough : GoodIn wsX11_comesBy wsX11_isThrough := goodIn_r _ [5, 6, 7, 8, 4, 9, 10, 55, 56, 57, 58, 59, 60, 61, 62, 63, 64, 65, 66, 67, 68, 69, 70, 71, 72, 73, 74, 75, 76, 77, 78] (by decide +kernel) (by decide +kernel)
set_option maxRecDepth 20000 in
theorem gX11_comesBy_X11_isThrough : GoodIn wsX11_comesBy (wsV RX11 96 RX11 yX11_isThrough wsX11_isThrough) := goodIn_app (goodIn_of _ (by decide +kernel)) ggX11_comesBy_X11_isThrough
set_option maxRecDepth 20000 in
theorem ggX11_comesBy_X11_step1 : GoodIn wsX11_comesBy wsX11_step1 := goodIn_r _ [14, 10, 15, 1, 2, 3, 4, 5, 6, 7, 8, 9, 16, 17, 18, 19, 20, 21, 22, 23, 24, 25, 26, 27, 28, 29, 30, 31, 32, 33, 34, 35, 36, 37, 38, 39, 40, 41, 42, 43, 44, 45, 46, 47, 48, 49, 50, 51, 52, 53, 54, 55, 56, 57, 58, 59, 60, 61, 62, 63, 64, 65, 66, 67, 68, 69, 70, 71, 72, 73, 74, 75, 76, 77, 78] (by decide +kernel) (by decide +kernel)
set_option maxRecDepth 20000 in
theorem gX11_comesBy_X11_step1 : GoodIn wsX11_comesBy (wsV RX11 103 RX11 yX11_step1 wsX11_step1) := goodIn_app (goodIn_of _ (by decide +kernel)) ggX11_comesBy_X11_step1
theorem dX11_comesBy_0 : decode cX11_comesBy 0 = .ok (.iconst 0, 1) := by decide +kernel
theorem dX11_comesBy_1 : decode cX11_comesBy 1 = .ok (.istore_n 2, 1) := by decide +kernel
theorem dX11_comesBy_2 : decode cX11_comesBy 2 = .ok (.iload_n 2, 1) := by decide +kernel
theorem dX11_comesBy_3 : decode cX11_comesBy 3 = .ok (.bipush 60, 2) := by decide +kernel
theorem dX11_comesBy_5 : decode cX11_comesBy 5 = .ok (.if_icmp .gt 21, 3) := by decide +kernel
theorem dX11_comesBy_8 : decode cX11_comesBy 8 = .ok (.aload_n 0, 1) := by decide +kernel
theorem dX11_comesBy_9 : decode cX11_comesBy 9 = .ok (.iload_n 1, 1) := by decide +kernel
theorem dX11_comesBy_10 : decode cX11_comesBy 10 = .ok (.invokevirtual 96, 3) := by decide +kernel
theorem dX11_comesBy_13 : decode cX11_comesBy 13 = .ok (.ifCond .ne 13, 3) := by decide +kernel
theorem dX11_comesBy_16 : decode cX11_comesBy 16 = .ok (.aload_n 0, 1) := by decide +kernel
theorem dX11_comesBy_17 : decode cX11_comesBy 17 = .ok (.invokevirtual 103, 3) := by decide +kernel
theorem dX11_comesBy_20 : decode cX11_comesBy 20 = .ok (.iinc 2 1, 3) := by decide +kernel
theorem dX11_comesBy_23 : decode cX11_comesBy 23 = .ok (.goto (-21), 3) := by decide +kernel
theorem dX11_comesBy_26 : decode cX11_comesBy 26 = .ok (.iload_n 2, 1) := by decide +kernel
theorem dX11_comesBy_27 : decode cX11_comesBy 27 = .ok (.bipush 60, 2) := by decide +kernel
theorem dX11_comesBy_29 : decode cX11_comesBy 29 = .ok (.if_icmp .le 8, 3) := by decide +kernel
theorem dX11_comesBy_32 : decode cX11_comesBy 32 = .ok (.bipush (-3), 2) := by decide +kernel
theorem dX11_comesBy_34 : decode cX11_comesBy 34 = .ok (.goto 4, 3) := by decide +kernel
theorem dX11_comesBy_37 : decode cX11_comesBy 37 = .ok (.iload_n 2, 1) := by decide +kernel
theorem dX11_comesBy_38 : decode cX11_comesBy 38 = .ok (.ireturn, 1) := by decide +kernel
set_option maxRecDepth 20000 in
theorem ggX11_comes_X11_isGoer : GoodIn wsX11_comes wsX11_isGoer := goodIn_r _ [7, 1, 8, 9, 6, 10, 70, 71, 72, 73, 74, 75, 76, 77, 78, 79, 80, 81, 82, 83, 84, 85, 86, 87, 88, 89, 90, 91, 92, 93] (by decide +kernel) (by decide +kernel)
set_option maxRecDepth 20000 in
theorem gX11_comes_X11_isGoer : GoodIn wsX11_comes (wsV RX11 174 RX11 yX11_isGoer wsX11_isGoer) := goodIn_app (goodIn_of _ (by decide +kernel)) ggX11_comes_X11_isGoer
set_option maxRecDepth 20000 in
theorem ggX11_comes_X11_copies : GoodIn wsX11_comes wsX11_copies := goodIn_r _ [13] (by decide +kernel) (by decide +kernel)
set_option maxRecDepth 20000 in
theorem gX11_comes_X11_copies : GoodIn wsX11_comes (va_wsS RX11 158 yX11_copies wsX11_copies) := goodIn_app (goodIn_of _ (by decide +kernel)) ggX11_comes_X11_copies
set_option maxRecDepth 20000 in
theorem ggX11_comes_X11_comesBy : GoodIn wsX11_comes wsX11_comesBy := goodIn_r _ [17, 18, 19, 20, 6, 21, 22, 23, 24, 25, 1, 26, 27, 28, 29, 30, 31, 32, 33, 34, 35, 36, 37, 38, 39, 40, 41, 42, 43, 44, 45, 46, 47, 48, 49, 50, 51, 52, 53, 54, 55, 56, 57, 58, 59, 60, 61, 62, 63, 64, 65, 66, 67, 68, 69, 70, 71, 72, 73, 74, 75, 76, 77, 78, 79, 80, 81, 82, 83, 84, 85, 86, 87, 88, 89, 90, 91, 92, 93] (by decide +kernel) (by decide +kernel)
set_option maxRecDepth 20000 in
theorem gX11_comes_X11_comesBy : GoodIn wsX11_comes (wsV RX11 196 RX11 yX11_comesBy wsX11_comesBy) := goodIn_app (goodIn_of _ (by decide +kernel)) ggX11_comes_X11_comesBy
