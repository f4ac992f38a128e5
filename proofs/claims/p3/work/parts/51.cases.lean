theorem dL_law_18 : decode cL_law 18 = .ok (.iload_n 3, 1) := by decide +kernel
theorem dL_law_19 : decode cL_law 19 = .ok (.aload_n 0, 1) := by decide +kernel
theorem dL_law_20 : decode cL_law 20 = .ok (.arraylength, 1) := by decide +kernel
theorem dL_law_21 : decode cL_law 21 = .ok (.bipush 6, 2) := by decide +kernel
theorem dL_law_23 : decode cL_law 23 = .ok (.isub, 1) := by decide +kernel
theorem dL_law_24 : decode cL_law 24 = .ok (.if_icmp .gt 1130, 3) := by decide +kernel
theorem dL_law_27 : decode cL_law 27 = .ok (.aload_n 0, 1) := by decide +kernel
theorem dL_law_28 : decode cL_law 28 = .ok (.iload_n 3, 1) := by decide +kernel
theorem dL_law_29 : decode cL_law 29 = .ok (.iaload, 1) := by decide +kernel
theorem dL_law_30 : decode cL_law 30 = .ok (.bipush 31, 2) := by decide +kernel
theorem dL_law_32 : decode cL_law 32 = .ok (.iand, 1) := by decide +kernel
theorem dL_law_33 : decode cL_law 33 = .ok (.tableswitch 1115 0 29 #[135, 158, 201, 224, 277, 290, 353, 376, 399, 422, 445, 478, 511, 544, 577, 620, 663, 706, 749, 782, 825, 848, 891, 924, 957, 1020, 1043, 1056, 1069, 1092], 135) := by decide +kernel
theorem dL_law_168 : decode cL_law 168 = .ok (.aload_n 1, 1) := by decide +kernel
theorem dL_law_169 : decode cL_law 169 = .ok (.aload_n 0, 1) := by decide +kernel
theorem dL_law_170 : decode cL_law 170 = .ok (.iload_n 3, 1) := by decide +kernel
theorem dL_law_171 : decode cL_law 171 = .ok (.iconst 1, 1) := by decide +kernel
theorem dL_law_172 : decode cL_law 172 = .ok (.iadd, 1) := by decide +kernel
theorem dL_law_173 : decode cL_law 173 = .ok (.iaload, 1) := by decide +kernel
theorem dL_law_174 : decode cL_law 174 = .ok (.invokevirtual 13, 3) := by decide +kernel
theorem dL_law_177 : decode cL_law 177 = .ok (.pop, 1) := by decide +kernel
theorem dL_law_178 : decode cL_law 178 = .ok (.aload_n 2, 1) := by decide +kernel
theorem dL_law_179 : decode cL_law 179 = .ok (.aload_n 0, 1) := by decide +kernel
theorem dL_law_180 : decode cL_law 180 = .ok (.iload_n 3, 1) := by decide +kernel
theorem dL_law_181 : decode cL_law 181 = .ok (.iconst 1, 1) := by decide +kernel
theorem dL_law_182 : decode cL_law 182 = .ok (.iadd, 1) := by decide +kernel
theorem dL_law_183 : decode cL_law 183 = .ok (.iaload, 1) := by decide +kernel
theorem dL_law_184 : decode cL_law 184 = .ok (.invokevirtual 17, 3) := by decide +kernel
theorem dL_law_187 : decode cL_law 187 = .ok (.pop, 1) := by decide +kernel
theorem dL_law_188 : decode cL_law 188 = .ok (.goto 960, 3) := by decide +kernel
theorem dL_law_191 : decode cL_law 191 = .ok (.aload_n 1, 1) := by decide +kernel
theorem dL_law_192 : decode cL_law 192 = .ok (.aload_n 0, 1) := by decide +kernel
theorem dL_law_193 : decode cL_law 193 = .ok (.iload_n 3, 1) := by decide +kernel
theorem dL_law_194 : decode cL_law 194 = .ok (.iconst 1, 1) := by decide +kernel
theorem dL_law_195 : decode cL_law 195 = .ok (.iadd, 1) := by decide +kernel
theorem dL_law_196 : decode cL_law 196 = .ok (.iaload, 1) := by decide +kernel
theorem dL_law_197 : decode cL_law 197 = .ok (.aload_n 0, 1) := by decide +kernel
theorem dL_law_198 : decode cL_law 198 = .ok (.iload_n 3, 1) := by decide +kernel
theorem dL_law_199 : decode cL_law 199 = .ok (.iconst 2, 1) := by decide +kernel
theorem dL_law_200 : decode cL_law 200 = .ok (.iadd, 1) := by decide +kernel
theorem dL_law_201 : decode cL_law 201 = .ok (.iaload, 1) := by decide +kernel
theorem dL_law_202 : decode cL_law 202 = .ok (.aload_n 0, 1) := by decide +kernel
theorem dL_law_203 : decode cL_law 203 = .ok (.iload_n 3, 1) := by decide +kernel
theorem dL_law_204 : decode cL_law 204 = .ok (.iconst 3, 1) := by decide +kernel
theorem dL_law_205 : decode cL_law 205 = .ok (.iadd, 1) := by decide +kernel
theorem dL_law_206 : decode cL_law 206 = .ok (.iaload, 1) := by decide +kernel
theorem dL_law_207 : decode cL_law 207 = .ok (.invokevirtual 18, 3) := by decide +kernel
theorem dL_law_210 : decode cL_law 210 = .ok (.aload_n 2, 1) := by decide +kernel
theorem dL_law_211 : decode cL_law 211 = .ok (.aload_n 0, 1) := by decide +kernel
theorem dL_law_212 : decode cL_law 212 = .ok (.iload_n 3, 1) := by decide +kernel
theorem dL_law_213 : decode cL_law 213 = .ok (.iconst 1, 1) := by decide +kernel
theorem dL_law_214 : decode cL_law 214 = .ok (.iadd, 1) := by decide +kernel
theorem dL_law_215 : decode cL_law 215 = .ok (.iaload, 1) := by decide +kernel
theorem dL_law_216 : decode cL_law 216 = .ok (.aload_n 0, 1) := by decide +kernel
theorem dL_law_217 : decode cL_law 217 = .ok (.iload_n 3, 1) := by decide +kernel
theorem dL_law_218 : decode cL_law 218 = .ok (.iconst 2, 1) := by decide +kernel
theorem dL_law_219 : decode cL_law 219 = .ok (.iadd, 1) := by decide +kernel
theorem dL_law_220 : decode cL_law 220 = .ok (.iaload, 1) := by decide +kernel
theorem dL_law_221 : decode cL_law 221 = .ok (.aload_n 0, 1) := by decide +kernel
theorem dL_law_222 : decode cL_law 222 = .ok (.iload_n 3, 1) := by decide +kernel
theorem dL_law_223 : decode cL_law 223 = .ok (.iconst 3, 1) := by decide +kernel
theorem dL_law_224 : decode cL_law 224 = .ok (.iadd, 1) := by decide +kernel
theorem dL_law_225 : decode cL_law 225 = .ok (.iaload, 1) := by decide +kernel
theorem dL_law_226 : decode cL_law 226 = .ok (.invokevirtual 22, 3) := by decide +kernel
theorem dL_law_229 : decode cL_law 229 = .ok (.if_icmp .eq 919, 3) := by decide +kernel
theorem dL_law_234 : decode cL_law 234 = .ok (.aload_n 1, 1) := by decide +kernel
theorem dL_law_235 : decode cL_law 235 = .ok (.aload_n 0, 1) := by decide +kernel
theorem dL_law_236 : decode cL_law 236 = .ok (.iload_n 3, 1) := by decide +kernel
theorem dL_law_237 : decode cL_law 237 = .ok (.iconst 1, 1) := by decide +kernel
theorem dL_law_238 : decode cL_law 238 = .ok (.iadd, 1) := by decide +kernel
theorem dL_law_239 : decode cL_law 239 = .ok (.iaload, 1) := by decide +kernel
theorem dL_law_240 : decode cL_law 240 = .ok (.invokevirtual 23, 3) := by decide +kernel
theorem dL_law_243 : decode cL_law 243 = .ok (.pop, 1) := by decide +kernel
theorem dL_law_244 : decode cL_law 244 = .ok (.aload_n 2, 1) := by decide +kernel
theorem dL_law_245 : decode cL_law 245 = .ok (.aload_n 0, 1) := by decide +kernel
theorem dL_law_246 : decode cL_law 246 = .ok (.iload_n 3, 1) := by decide +kernel
theorem dL_law_247 : decode cL_law 247 = .ok (.iconst 1, 1) := by decide +kernel
theorem dL_law_248 : decode cL_law 248 = .ok (.iadd, 1) := by decide +kernel
theorem dL_law_249 : decode cL_law 249 = .ok (.iaload, 1) := by decide +kernel
theorem dL_law_250 : decode cL_law 250 = .ok (.invokevirtual 26, 3) := by decide +kernel
theorem dL_law_253 : decode cL_law 253 = .ok (.pop, 1) := by decide +kernel
theorem dL_law_254 : decode cL_law 254 = .ok (.goto 894, 3) := by decide +kernel
theorem dL_law_257 : decode cL_law 257 = .ok (.aload_n 1, 1) := by decide +kernel
theorem dL_law_258 : decode cL_law 258 = .ok (.aload_n 0, 1) := by decide +kernel
theorem dL_law_259 : decode cL_law 259 = .ok (.iload_n 3, 1) := by decide +kernel
theorem dL_law_260 : decode cL_law 260 = .ok (.iconst 1, 1) := by decide +kernel
theorem dL_law_261 : decode cL_law 261 = .ok (.iadd, 1) := by decide +kernel
theorem dL_law_262 : decode cL_law 262 = .ok (.iaload, 1) := by decide +kernel
theorem dL_law_263 : decode cL_law 263 = .ok (.aload_n 0, 1) := by decide +kernel
theorem dL_law_264 : decode cL_law 264 = .ok (.iload_n 3, 1) := by decide +kernel
theorem dL_law_265 : decode cL_law 265 = .ok (.iconst 2, 1) := by decide +kernel
theorem dL_law_266 : decode cL_law 266 = .ok (.iadd, 1) := by decide +kernel
theorem dL_law_267 : decode cL_law 267 = .ok (.iaload, 1) := by decide +kernel
theorem dL_law_268 : decode cL_law 268 = .ok (.aload_n 0, 1) := by decide +kernel
theorem dL_law_269 : decode cL_law 269 = .ok (.iload_n 3, 1) := by decide +kernel
theorem dL_law_270 : decode cL_law 270 = .ok (.iconst 3, 1) := by decide +kernel
theorem dL_law_271 : decode cL_law 271 = .ok (.iadd, 1) := by decide +kernel
theorem dL_law_272 : decode cL_law 272 = .ok (.iaload, 1) := by decide +kernel
theorem dL_law_273 : decode cL_law 273 = .ok (.aload_n 0, 1) := by decide +kernel
theorem dL_law_274 : decode cL_law 274 = .ok (.iload_n 3, 1) := by decide +kernel
theorem dL_law_275 : decode cL_law 275 = .ok (.iconst 4, 1) := by decide +kernel
theorem dL_law_276 : decode cL_law 276 = .ok (.iadd, 1) := by decide +kernel
theorem dL_law_277 : decode cL_law 277 = .ok (.iaload, 1) := by decide +kernel
theorem dL_law_278 : decode cL_law 278 = .ok (.invokevirtual 27, 3) := by decide +kernel
theorem dL_law_281 : decode cL_law 281 = .ok (.pop, 1) := by decide +kernel
theorem dL_law_282 : decode cL_law 282 = .ok (.aload_n 2, 1) := by decide +kernel
theorem dL_law_283 : decode cL_law 283 = .ok (.aload_n 0, 1) := by decide +kernel
theorem dL_law_284 : decode cL_law 284 = .ok (.iload_n 3, 1) := by decide +kernel
theorem dL_law_285 : decode cL_law 285 = .ok (.iconst 1, 1) := by decide +kernel
theorem dL_law_286 : decode cL_law 286 = .ok (.iadd, 1) := by decide +kernel
theorem dL_law_287 : decode cL_law 287 = .ok (.iaload, 1) := by decide +kernel
theorem dL_law_288 : decode cL_law 288 = .ok (.aload_n 0, 1) := by decide +kernel
theorem dL_law_289 : decode cL_law 289 = .ok (.iload_n 3, 1) := by decide +kernel
theorem dL_law_290 : decode cL_law 290 = .ok (.iconst 2, 1) := by decide +kernel
theorem dL_law_291 : decode cL_law 291 = .ok (.iadd, 1) := by decide +kernel
theorem dL_law_292 : decode cL_law 292 = .ok (.iaload, 1) := by decide +kernel
theorem dL_law_293 : decode cL_law 293 = .ok (.aload_n 0, 1) := by decide +kernel
theorem dL_law_294 : decode cL_law 294 = .ok (.iload_n 3, 1) := by decide +kernel
theorem dL_law_295 : decode cL_law 295 = .ok (.iconst 3, 1) := by decide +kernel
theorem dL_law_296 : decode cL_law 296 = .ok (.iadd, 1) := by decide +kernel
theorem dL_law_297 : decode cL_law 297 = .ok (.iaload, 1) := by decide +kernel
theorem dL_law_298 : decode cL_law 298 = .ok (.aload_n 0, 1) := by decide +kernel
theorem dL_law_299 : decode cL_law 299 = .ok (.iload_n 3, 1) := by decide +kernel
theorem dL_law_300 : decode cL_law 300 = .ok (.iconst 4, 1) := by decide +kernel
theorem dL_law_301 : decode cL_law 301 = .ok (.iadd, 1) := by decide +kernel
theorem dL_law_302 : decode cL_law 302 = .ok (.iaload, 1) := by decide +kernel
theorem dL_law_303 : decode cL_law 303 = .ok (.invokevirtual 31, 3) := by decide +kernel
theorem dL_law_306 : decode cL_law 306 = .ok (.pop, 1) := by decide +kernel
theorem dL_law_307 : decode cL_law 307 = .ok (.goto 841, 3) := by decide +kernel
theorem dL_law_310 : decode cL_law 310 = .ok (.aload_n 1, 1) := by decide +kernel
theorem dL_law_311 : decode cL_law 311 = .ok (.invokevirtual 32, 3) := by decide +kernel
theorem dL_law_314 : decode cL_law 314 = .ok (.pop, 1) := by decide +kernel
theorem dL_law_315 : decode cL_law 315 = .ok (.aload_n 2, 1) := by decide +kernel
theorem dL_law_316 : decode cL_law 316 = .ok (.invokevirtual 36, 3) := by decide +kernel
theorem dL_law_319 : decode cL_law 319 = .ok (.pop, 1) := by decide +kernel
theorem dL_law_320 : decode cL_law 320 = .ok (.goto 828, 3) := by decide +kernel
theorem dL_law_323 : decode cL_law 323 = .ok (.aload_n 1, 1) := by decide +kernel
theorem dL_law_324 : decode cL_law 324 = .ok (.aload_n 0, 1) := by decide +kernel
theorem dL_law_325 : decode cL_law 325 = .ok (.iload_n 3, 1) := by decide +kernel
theorem dL_law_326 : decode cL_law 326 = .ok (.iconst 1, 1) := by decide +kernel
theorem dL_law_327 : decode cL_law 327 = .ok (.iadd, 1) := by decide +kernel
theorem dL_law_328 : decode cL_law 328 = .ok (.iaload, 1) := by decide +kernel
theorem dL_law_329 : decode cL_law 329 = .ok (.aload_n 0, 1) := by decide +kernel
theorem dL_law_330 : decode cL_law 330 = .ok (.iload_n 3, 1) := by decide +kernel
theorem dL_law_331 : decode cL_law 331 = .ok (.iconst 2, 1) := by decide +kernel
theorem dL_law_332 : decode cL_law 332 = .ok (.iadd, 1) := by decide +kernel
theorem dL_law_333 : decode cL_law 333 = .ok (.iaload, 1) := by decide +kernel
theorem dL_law_334 : decode cL_law 334 = .ok (.aload_n 0, 1) := by decide +kernel
theorem dL_law_335 : decode cL_law 335 = .ok (.iload_n 3, 1) := by decide +kernel
theorem dL_law_336 : decode cL_law 336 = .ok (.iconst 3, 1) := by decide +kernel
theorem dL_law_337 : decode cL_law 337 = .ok (.iadd, 1) := by decide +kernel
theorem dL_law_338 : decode cL_law 338 = .ok (.iaload, 1) := by decide +kernel
theorem dL_law_339 : decode cL_law 339 = .ok (.aload_n 0, 1) := by decide +kernel
theorem dL_law_340 : decode cL_law 340 = .ok (.iload_n 3, 1) := by decide +kernel
theorem dL_law_341 : decode cL_law 341 = .ok (.iconst 4, 1) := by decide +kernel
theorem dL_law_342 : decode cL_law 342 = .ok (.iadd, 1) := by decide +kernel
theorem dL_law_343 : decode cL_law 343 = .ok (.iaload, 1) := by decide +kernel
theorem dL_law_344 : decode cL_law 344 = .ok (.aload_n 0, 1) := by decide +kernel
theorem dL_law_345 : decode cL_law 345 = .ok (.iload_n 3, 1) := by decide +kernel
theorem dL_law_346 : decode cL_law 346 = .ok (.iconst 5, 1) := by decide +kernel
theorem dL_law_347 : decode cL_law 347 = .ok (.iadd, 1) := by decide +kernel
theorem dL_law_348 : decode cL_law 348 = .ok (.iaload, 1) := by decide +kernel
theorem dL_law_349 : decode cL_law 349 = .ok (.invokevirtual 37, 3) := by decide +kernel
theorem dL_law_352 : decode cL_law 352 = .ok (.pop, 1) := by decide +kernel
theorem dL_law_353 : decode cL_law 353 = .ok (.aload_n 2, 1) := by decide +kernel
theorem dL_law_354 : decode cL_law 354 = .ok (.aload_n 0, 1) := by decide +kernel
theorem dL_law_355 : decode cL_law 355 = .ok (.iload_n 3, 1) := by decide +kernel
theorem dL_law_356 : decode cL_law 356 = .ok (.iconst 1, 1) := by decide +kernel
theorem dL_law_357 : decode cL_law 357 = .ok (.iadd, 1) := by decide +kernel
theorem dL_law_358 : decode cL_law 358 = .ok (.iaload, 1) := by decide +kernel
theorem dL_law_359 : decode cL_law 359 = .ok (.aload_n 0, 1) := by decide +kernel
theorem dL_law_360 : decode cL_law 360 = .ok (.iload_n 3, 1) := by decide +kernel
theorem dL_law_361 : decode cL_law 361 = .ok (.iconst 2, 1) := by decide +kernel
theorem dL_law_362 : decode cL_law 362 = .ok (.iadd, 1) := by decide +kernel
theorem dL_law_363 : decode cL_law 363 = .ok (.iaload, 1) := by decide +kernel
theorem dL_law_364 : decode cL_law 364 = .ok (.aload_n 0, 1) := by decide +kernel
theorem dL_law_365 : decode cL_law 365 = .ok (.iload_n 3, 1) := by decide +kernel
theorem dL_law_366 : decode cL_law 366 = .ok (.iconst 3, 1) := by decide +kernel
theorem dL_law_367 : decode cL_law 367 = .ok (.iadd, 1) := by decide +kernel
theorem dL_law_368 : decode cL_law 368 = .ok (.iaload, 1) := by decide +kernel
theorem dL_law_369 : decode cL_law 369 = .ok (.aload_n 0, 1) := by decide +kernel
theorem dL_law_370 : decode cL_law 370 = .ok (.iload_n 3, 1) := by decide +kernel
theorem dL_law_371 : decode cL_law 371 = .ok (.iconst 4, 1) := by decide +kernel
theorem dL_law_372 : decode cL_law 372 = .ok (.iadd, 1) := by decide +kernel
theorem dL_law_373 : decode cL_law 373 = .ok (.iaload, 1) := by decide +kernel
theorem dL_law_374 : decode cL_law 374 = .ok (.aload_n 0, 1) := by decide +kernel
theorem dL_law_375 : decode cL_law 375 = .ok (.iload_n 3, 1) := by decide +kernel
theorem dL_law_376 : decode cL_law 376 = .ok (.iconst 5, 1) := by decide +kernel
theorem dL_law_377 : decode cL_law 377 = .ok (.iadd, 1) := by decide +kernel
theorem dL_law_378 : decode cL_law 378 = .ok (.iaload, 1) := by decide +kernel
theorem dL_law_379 : decode cL_law 379 = .ok (.invokevirtual 41, 3) := by decide +kernel
theorem dL_law_382 : decode cL_law 382 = .ok (.pop, 1) := by decide +kernel
theorem dL_law_383 : decode cL_law 383 = .ok (.goto 765, 3) := by decide +kernel
theorem dL_law_386 : decode cL_law 386 = .ok (.aload_n 1, 1) := by decide +kernel
theorem dL_law_387 : decode cL_law 387 = .ok (.aload_n 0, 1) := by decide +kernel
theorem dL_law_388 : decode cL_law 388 = .ok (.iload_n 3, 1) := by decide +kernel
theorem dL_law_389 : decode cL_law 389 = .ok (.iconst 1, 1) := by decide +kernel
theorem dL_law_390 : decode cL_law 390 = .ok (.iadd, 1) := by decide +kernel
theorem dL_law_391 : decode cL_law 391 = .ok (.iaload, 1) := by decide +kernel
theorem dL_law_392 : decode cL_law 392 = .ok (.invokevirtual 42, 3) := by decide +kernel
theorem dL_law_395 : decode cL_law 395 = .ok (.pop, 1) := by decide +kernel
theorem dL_law_396 : decode cL_law 396 = .ok (.aload_n 2, 1) := by decide +kernel
theorem dL_law_397 : decode cL_law 397 = .ok (.aload_n 0, 1) := by decide +kernel
theorem dL_law_398 : decode cL_law 398 = .ok (.iload_n 3, 1) := by decide +kernel
theorem dL_law_399 : decode cL_law 399 = .ok (.iconst 1, 1) := by decide +kernel
theorem dL_law_400 : decode cL_law 400 = .ok (.iadd, 1) := by decide +kernel
theorem dL_law_401 : decode cL_law 401 = .ok (.iaload, 1) := by decide +kernel
theorem dL_law_402 : decode cL_law 402 = .ok (.invokevirtual 46, 3) := by decide +kernel
theorem dL_law_405 : decode cL_law 405 = .ok (.pop, 1) := by decide +kernel
theorem dL_law_406 : decode cL_law 406 = .ok (.goto 742, 3) := by decide +kernel
theorem dL_law_409 : decode cL_law 409 = .ok (.aload_n 1, 1) := by decide +kernel
theorem dL_law_410 : decode cL_law 410 = .ok (.aload_n 0, 1) := by decide +kernel
theorem dL_law_411 : decode cL_law 411 = .ok (.iload_n 3, 1) := by decide +kernel
theorem dL_law_412 : decode cL_law 412 = .ok (.iconst 1, 1) := by decide +kernel
theorem dL_law_413 : decode cL_law 413 = .ok (.iadd, 1) := by decide +kernel
theorem dL_law_414 : decode cL_law 414 = .ok (.iaload, 1) := by decide +kernel
theorem dL_law_415 : decode cL_law 415 = .ok (.invokevirtual 47, 3) := by decide +kernel
theorem dL_law_418 : decode cL_law 418 = .ok (.pop, 1) := by decide +kernel
theorem dL_law_419 : decode cL_law 419 = .ok (.aload_n 2, 1) := by decide +kernel
theorem dL_law_420 : decode cL_law 420 = .ok (.aload_n 0, 1) := by decide +kernel
theorem dL_law_421 : decode cL_law 421 = .ok (.iload_n 3, 1) := by decide +kernel
theorem dL_law_422 : decode cL_law 422 = .ok (.iconst 1, 1) := by decide +kernel
theorem dL_law_423 : decode cL_law 423 = .ok (.iadd, 1) := by decide +kernel
theorem dL_law_424 : decode cL_law 424 = .ok (.iaload, 1) := by decide +kernel
theorem dL_law_425 : decode cL_law 425 = .ok (.invokevirtual 50, 3) := by decide +kernel
theorem dL_law_428 : decode cL_law 428 = .ok (.pop, 1) := by decide +kernel
theorem dL_law_429 : decode cL_law 429 = .ok (.goto 719, 3) := by decide +kernel
theorem dL_law_432 : decode cL_law 432 = .ok (.aload_n 1, 1) := by decide +kernel
theorem dL_law_433 : decode cL_law 433 = .ok (.aload_n 0, 1) := by decide +kernel
theorem dL_law_434 : decode cL_law 434 = .ok (.iload_n 3, 1) := by decide +kernel
theorem dL_law_435 : decode cL_law 435 = .ok (.iconst 1, 1) := by decide +kernel
theorem dL_law_436 : decode cL_law 436 = .ok (.iadd, 1) := by decide +kernel
theorem dL_law_437 : decode cL_law 437 = .ok (.iaload, 1) := by decide +kernel
theorem dL_law_438 : decode cL_law 438 = .ok (.invokevirtual 51, 3) := by decide +kernel
theorem dL_law_441 : decode cL_law 441 = .ok (.pop, 1) := by decide +kernel
theorem dL_law_442 : decode cL_law 442 = .ok (.aload_n 2, 1) := by decide +kernel
theorem dL_law_443 : decode cL_law 443 = .ok (.aload_n 0, 1) := by decide +kernel
theorem dL_law_444 : decode cL_law 444 = .ok (.iload_n 3, 1) := by decide +kernel
theorem dL_law_445 : decode cL_law 445 = .ok (.iconst 1, 1) := by decide +kernel
theorem dL_law_446 : decode cL_law 446 = .ok (.iadd, 1) := by decide +kernel
theorem dL_law_447 : decode cL_law 447 = .ok (.iaload, 1) := by decide +kernel
theorem dL_law_448 : decode cL_law 448 = .ok (.invokevirtual 54, 3) := by decide +kernel
theorem dL_law_451 : decode cL_law 451 = .ok (.pop, 1) := by decide +kernel
theorem dL_law_452 : decode cL_law 452 = .ok (.goto 696, 3) := by decide +kernel
theorem dL_law_455 : decode cL_law 455 = .ok (.aload_n 1, 1) := by decide +kernel
theorem dL_law_456 : decode cL_law 456 = .ok (.aload_n 0, 1) := by decide +kernel
theorem dL_law_457 : decode cL_law 457 = .ok (.iload_n 3, 1) := by decide +kernel
theorem dL_law_458 : decode cL_law 458 = .ok (.iconst 1, 1) := by decide +kernel
theorem dL_law_459 : decode cL_law 459 = .ok (.iadd, 1) := by decide +kernel
theorem dL_law_460 : decode cL_law 460 = .ok (.iaload, 1) := by decide +kernel
theorem dL_law_461 : decode cL_law 461 = .ok (.invokevirtual 55, 3) := by decide +kernel
theorem dL_law_464 : decode cL_law 464 = .ok (.pop, 1) := by decide +kernel
theorem dL_law_465 : decode cL_law 465 = .ok (.aload_n 2, 1) := by decide +kernel
theorem dL_law_466 : decode cL_law 466 = .ok (.aload_n 0, 1) := by decide +kernel
theorem dL_law_467 : decode cL_law 467 = .ok (.iload_n 3, 1) := by decide +kernel
theorem dL_law_468 : decode cL_law 468 = .ok (.iconst 1, 1) := by decide +kernel
theorem dL_law_469 : decode cL_law 469 = .ok (.iadd, 1) := by decide +kernel
theorem dL_law_470 : decode cL_law 470 = .ok (.iaload, 1) := by decide +kernel
theorem dL_law_471 : decode cL_law 471 = .ok (.invokevirtual 58, 3) := by decide +kernel
theorem dL_law_474 : decode cL_law 474 = .ok (.pop, 1) := by decide +kernel
theorem dL_law_475 : decode cL_law 475 = .ok (.goto 673, 3) := by decide +kernel
theorem dL_law_478 : decode cL_law 478 = .ok (.aload_n 1, 1) := by decide +kernel
theorem dL_law_479 : decode cL_law 479 = .ok (.aload_n 0, 1) := by decide +kernel
theorem dL_law_480 : decode cL_law 480 = .ok (.iload_n 3, 1) := by decide +kernel
theorem dL_law_481 : decode cL_law 481 = .ok (.iconst 1, 1) := by decide +kernel
theorem dL_law_482 : decode cL_law 482 = .ok (.iadd, 1) := by decide +kernel
theorem dL_law_483 : decode cL_law 483 = .ok (.iaload, 1) := by decide +kernel
theorem dL_law_484 : decode cL_law 484 = .ok (.aload_n 0, 1) := by decide +kernel
theorem dL_law_485 : decode cL_law 485 = .ok (.iload_n 3, 1) := by decide +kernel
theorem dL_law_486 : decode cL_law 486 = .ok (.iconst 2, 1) := by decide +kernel
theorem dL_law_487 : decode cL_law 487 = .ok (.iadd, 1) := by decide +kernel
theorem dL_law_488 : decode cL_law 488 = .ok (.iaload, 1) := by decide +kernel
theorem dL_law_489 : decode cL_law 489 = .ok (.invokevirtual 59, 3) := by decide +kernel
theorem dL_law_492 : decode cL_law 492 = .ok (.pop, 1) := by decide +kernel
theorem dL_law_493 : decode cL_law 493 = .ok (.aload_n 2, 1) := by decide +kernel
theorem dL_law_494 : decode cL_law 494 = .ok (.aload_n 0, 1) := by decide +kernel
theorem dL_law_495 : decode cL_law 495 = .ok (.iload_n 3, 1) := by decide +kernel
theorem dL_law_496 : decode cL_law 496 = .ok (.iconst 1, 1) := by decide +kernel
theorem dL_law_497 : decode cL_law 497 = .ok (.iadd, 1) := by decide +kernel
theorem dL_law_498 : decode cL_law 498 = .ok (.iaload, 1) := by decide +kernel
theorem dL_law_499 : decode cL_law 499 = .ok (.aload_n 0, 1) := by decide +kernel
theorem dL_law_500 : decode cL_law 500 = .ok (.iload_n 3, 1) := by decide +kernel
theorem dL_law_501 : decode cL_law 501 = .ok (.iconst 2, 1) := by decide +kernel
theorem dL_law_502 : decode cL_law 502 = .ok (.iadd, 1) := by decide +kernel
theorem dL_law_503 : decode cL_law 503 = .ok (.iaload, 1) := by decide +kernel
theorem dL_law_504 : decode cL_law 504 = .ok (.invokevirtual 63, 3) := by decide +kernel
theorem dL_law_507 : decode cL_law 507 = .ok (.pop, 1) := by decide +kernel
theorem dL_law_508 : decode cL_law 508 = .ok (.goto 640, 3) := by decide +kernel
theorem dL_law_511 : decode cL_law 511 = .ok (.aload_n 1, 1) := by decide +kernel
theorem dL_law_512 : decode cL_law 512 = .ok (.aload_n 0, 1) := by decide +kernel
theorem dL_law_513 : decode cL_law 513 = .ok (.iload_n 3, 1) := by decide +kernel
theorem dL_law_514 : decode cL_law 514 = .ok (.iconst 1, 1) := by decide +kernel
theorem dL_law_515 : decode cL_law 515 = .ok (.iadd, 1) := by decide +kernel
theorem dL_law_516 : decode cL_law 516 = .ok (.iaload, 1) := by decide +kernel
theorem dL_law_517 : decode cL_law 517 = .ok (.aload_n 0, 1) := by decide +kernel
theorem dL_law_518 : decode cL_law 518 = .ok (.iload_n 3, 1) := by decide +kernel
theorem dL_law_519 : decode cL_law 519 = .ok (.iconst 2, 1) := by decide +kernel
theorem dL_law_520 : decode cL_law 520 = .ok (.iadd, 1) := by decide +kernel
theorem dL_law_521 : decode cL_law 521 = .ok (.iaload, 1) := by decide +kernel
theorem dL_law_522 : decode cL_law 522 = .ok (.invokevirtual 64, 3) := by decide +kernel
theorem dL_law_525 : decode cL_law 525 = .ok (.pop, 1) := by decide +kernel
theorem dL_law_526 : decode cL_law 526 = .ok (.aload_n 2, 1) := by decide +kernel
theorem dL_law_527 : decode cL_law 527 = .ok (.aload_n 0, 1) := by decide +kernel
theorem dL_law_528 : decode cL_law 528 = .ok (.iload_n 3, 1) := by decide +kernel
theorem dL_law_529 : decode cL_law 529 = .ok (.iconst 1, 1) := by decide +kernel
theorem dL_law_530 : decode cL_law 530 = .ok (.iadd, 1) := by decide +kernel
theorem dL_law_531 : decode cL_law 531 = .ok (.iaload, 1) := by decide +kernel
theorem dL_law_532 : decode cL_law 532 = .ok (.aload_n 0, 1) := by decide +kernel
theorem dL_law_533 : decode cL_law 533 = .ok (.iload_n 3, 1) := by decide +kernel
theorem dL_law_534 : decode cL_law 534 = .ok (.iconst 2, 1) := by decide +kernel
theorem dL_law_535 : decode cL_law 535 = .ok (.iadd, 1) := by decide +kernel
theorem dL_law_536 : decode cL_law 536 = .ok (.iaload, 1) := by decide +kernel
theorem dL_law_537 : decode cL_law 537 = .ok (.invokevirtual 67, 3) := by decide +kernel
theorem dL_law_540 : decode cL_law 540 = .ok (.pop, 1) := by decide +kernel
theorem dL_law_541 : decode cL_law 541 = .ok (.goto 607, 3) := by decide +kernel
theorem dL_law_544 : decode cL_law 544 = .ok (.aload_n 1, 1) := by decide +kernel
theorem dL_law_545 : decode cL_law 545 = .ok (.aload_n 0, 1) := by decide +kernel
theorem dL_law_546 : decode cL_law 546 = .ok (.iload_n 3, 1) := by decide +kernel
theorem dL_law_547 : decode cL_law 547 = .ok (.iconst 1, 1) := by decide +kernel
theorem dL_law_548 : decode cL_law 548 = .ok (.iadd, 1) := by decide +kernel
theorem dL_law_549 : decode cL_law 549 = .ok (.iaload, 1) := by decide +kernel
theorem dL_law_550 : decode cL_law 550 = .ok (.aload_n 0, 1) := by decide +kernel
theorem dL_law_551 : decode cL_law 551 = .ok (.iload_n 3, 1) := by decide +kernel
theorem dL_law_552 : decode cL_law 552 = .ok (.iconst 2, 1) := by decide +kernel
theorem dL_law_553 : decode cL_law 553 = .ok (.iadd, 1) := by decide +kernel
theorem dL_law_554 : decode cL_law 554 = .ok (.iaload, 1) := by decide +kernel
theorem dL_law_555 : decode cL_law 555 = .ok (.invokevirtual 68, 3) := by decide +kernel
theorem dL_law_558 : decode cL_law 558 = .ok (.pop, 1) := by decide +kernel
theorem dL_law_559 : decode cL_law 559 = .ok (.aload_n 2, 1) := by decide +kernel
theorem dL_law_560 : decode cL_law 560 = .ok (.aload_n 0, 1) := by decide +kernel
theorem dL_law_561 : decode cL_law 561 = .ok (.iload_n 3, 1) := by decide +kernel
theorem dL_law_562 : decode cL_law 562 = .ok (.iconst 1, 1) := by decide +kernel
theorem dL_law_563 : decode cL_law 563 = .ok (.iadd, 1) := by decide +kernel
theorem dL_law_564 : decode cL_law 564 = .ok (.iaload, 1) := by decide +kernel
theorem dL_law_565 : decode cL_law 565 = .ok (.aload_n 0, 1) := by decide +kernel
theorem dL_law_566 : decode cL_law 566 = .ok (.iload_n 3, 1) := by decide +kernel
theorem dL_law_567 : decode cL_law 567 = .ok (.iconst 2, 1) := by decide +kernel
theorem dL_law_568 : decode cL_law 568 = .ok (.iadd, 1) := by decide +kernel
theorem dL_law_569 : decode cL_law 569 = .ok (.iaload, 1) := by decide +kernel
theorem dL_law_570 : decode cL_law 570 = .ok (.invokevirtual 71, 3) := by decide +kernel
theorem dL_law_573 : decode cL_law 573 = .ok (.pop, 1) := by decide +kernel
theorem dL_law_574 : decode cL_law 574 = .ok (.goto 574, 3) := by decide +kernel
theorem dL_law_577 : decode cL_law 577 = .ok (.aload_n 1, 1) := by decide +kernel
theorem dL_law_578 : decode cL_law 578 = .ok (.aload_n 0, 1) := by decide +kernel
theorem dL_law_579 : decode cL_law 579 = .ok (.iload_n 3, 1) := by decide +kernel
theorem dL_law_580 : decode cL_law 580 = .ok (.iconst 1, 1) := by decide +kernel
theorem dL_law_581 : decode cL_law 581 = .ok (.iadd, 1) := by decide +kernel
theorem dL_law_582 : decode cL_law 582 = .ok (.iaload, 1) := by decide +kernel
theorem dL_law_583 : decode cL_law 583 = .ok (.aload_n 0, 1) := by decide +kernel
theorem dL_law_584 : decode cL_law 584 = .ok (.iload_n 3, 1) := by decide +kernel
theorem dL_law_585 : decode cL_law 585 = .ok (.iconst 2, 1) := by decide +kernel
theorem dL_law_586 : decode cL_law 586 = .ok (.iadd, 1) := by decide +kernel
theorem dL_law_587 : decode cL_law 587 = .ok (.iaload, 1) := by decide +kernel
theorem dL_law_588 : decode cL_law 588 = .ok (.invokevirtual 72, 3) := by decide +kernel
theorem dL_law_591 : decode cL_law 591 = .ok (.pop, 1) := by decide +kernel
theorem dL_law_592 : decode cL_law 592 = .ok (.aload_n 2, 1) := by decide +kernel
theorem dL_law_593 : decode cL_law 593 = .ok (.aload_n 0, 1) := by decide +kernel
theorem dL_law_594 : decode cL_law 594 = .ok (.iload_n 3, 1) := by decide +kernel
theorem dL_law_595 : decode cL_law 595 = .ok (.iconst 1, 1) := by decide +kernel
theorem dL_law_596 : decode cL_law 596 = .ok (.iadd, 1) := by decide +kernel
theorem dL_law_597 : decode cL_law 597 = .ok (.iaload, 1) := by decide +kernel
theorem dL_law_598 : decode cL_law 598 = .ok (.aload_n 0, 1) := by decide +kernel
theorem dL_law_599 : decode cL_law 599 = .ok (.iload_n 3, 1) := by decide +kernel
theorem dL_law_600 : decode cL_law 600 = .ok (.iconst 2, 1) := by decide +kernel
theorem dL_law_601 : decode cL_law 601 = .ok (.iadd, 1) := by decide +kernel
theorem dL_law_602 : decode cL_law 602 = .ok (.iaload, 1) := by decide +kernel
theorem dL_law_603 : decode cL_law 603 = .ok (.invokevirtual 75, 3) := by decide +kernel
theorem dL_law_606 : decode cL_law 606 = .ok (.pop, 1) := by decide +kernel
theorem dL_law_607 : decode cL_law 607 = .ok (.goto 541, 3) := by decide +kernel
theorem dL_law_610 : decode cL_law 610 = .ok (.aload_n 1, 1) := by decide +kernel
theorem dL_law_611 : decode cL_law 611 = .ok (.aload_n 0, 1) := by decide +kernel
theorem dL_law_612 : decode cL_law 612 = .ok (.iload_n 3, 1) := by decide +kernel
theorem dL_law_613 : decode cL_law 613 = .ok (.iconst 1, 1) := by decide +kernel
theorem dL_law_614 : decode cL_law 614 = .ok (.iadd, 1) := by decide +kernel
theorem dL_law_615 : decode cL_law 615 = .ok (.iaload, 1) := by decide +kernel
theorem dL_law_616 : decode cL_law 616 = .ok (.aload_n 0, 1) := by decide +kernel
theorem dL_law_617 : decode cL_law 617 = .ok (.iload_n 3, 1) := by decide +kernel
theorem dL_law_618 : decode cL_law 618 = .ok (.iconst 2, 1) := by decide +kernel
theorem dL_law_619 : decode cL_law 619 = .ok (.iadd, 1) := by decide +kernel
theorem dL_law_620 : decode cL_law 620 = .ok (.iaload, 1) := by decide +kernel
theorem dL_law_621 : decode cL_law 621 = .ok (.aload_n 0, 1) := by decide +kernel
theorem dL_law_622 : decode cL_law 622 = .ok (.iload_n 3, 1) := by decide +kernel
theorem dL_law_623 : decode cL_law 623 = .ok (.iconst 3, 1) := by decide +kernel
theorem dL_law_624 : decode cL_law 624 = .ok (.iadd, 1) := by decide +kernel
theorem dL_law_625 : decode cL_law 625 = .ok (.iaload, 1) := by decide +kernel
theorem dL_law_626 : decode cL_law 626 = .ok (.invokevirtual 76, 3) := by decide +kernel
theorem dL_law_629 : decode cL_law 629 = .ok (.pop, 1) := by decide +kernel
theorem dL_law_630 : decode cL_law 630 = .ok (.aload_n 2, 1) := by decide +kernel
theorem dL_law_631 : decode cL_law 631 = .ok (.aload_n 0, 1) := by decide +kernel
theorem dL_law_632 : decode cL_law 632 = .ok (.iload_n 3, 1) := by decide +kernel
theorem dL_law_633 : decode cL_law 633 = .ok (.iconst 1, 1) := by decide +kernel
theorem dL_law_634 : decode cL_law 634 = .ok (.iadd, 1) := by decide +kernel
theorem dL_law_635 : decode cL_law 635 = .ok (.iaload, 1) := by decide +kernel
theorem dL_law_636 : decode cL_law 636 = .ok (.aload_n 0, 1) := by decide +kernel
theorem dL_law_637 : decode cL_law 637 = .ok (.iload_n 3, 1) := by decide +kernel
theorem dL_law_638 : decode cL_law 638 = .ok (.iconst 2, 1) := by decide +kernel
theorem dL_law_639 : decode cL_law 639 = .ok (.iadd, 1) := by decide +kernel
theorem dL_law_640 : decode cL_law 640 = .ok (.iaload, 1) := by decide +kernel
theorem dL_law_641 : decode cL_law 641 = .ok (.aload_n 0, 1) := by decide +kernel
theorem dL_law_642 : decode cL_law 642 = .ok (.iload_n 3, 1) := by decide +kernel
theorem dL_law_643 : decode cL_law 643 = .ok (.iconst 3, 1) := by decide +kernel
theorem dL_law_644 : decode cL_law 644 = .ok (.iadd, 1) := by decide +kernel
theorem dL_law_645 : decode cL_law 645 = .ok (.iaload, 1) := by decide +kernel
theorem dL_law_646 : decode cL_law 646 = .ok (.invokevirtual 80, 3) := by decide +kernel
theorem dL_law_649 : decode cL_law 649 = .ok (.pop, 1) := by decide +kernel
theorem dL_law_650 : decode cL_law 650 = .ok (.goto 498, 3) := by decide +kernel
theorem dL_law_653 : decode cL_law 653 = .ok (.aload_n 1, 1) := by decide +kernel
theorem dL_law_654 : decode cL_law 654 = .ok (.aload_n 0, 1) := by decide +kernel
theorem dL_law_655 : decode cL_law 655 = .ok (.iload_n 3, 1) := by decide +kernel
theorem dL_law_656 : decode cL_law 656 = .ok (.iconst 1, 1) := by decide +kernel
theorem dL_law_657 : decode cL_law 657 = .ok (.iadd, 1) := by decide +kernel
theorem dL_law_658 : decode cL_law 658 = .ok (.iaload, 1) := by decide +kernel
theorem dL_law_659 : decode cL_law 659 = .ok (.aload_n 0, 1) := by decide +kernel
theorem dL_law_660 : decode cL_law 660 = .ok (.iload_n 3, 1) := by decide +kernel
theorem dL_law_661 : decode cL_law 661 = .ok (.iconst 2, 1) := by decide +kernel
theorem dL_law_662 : decode cL_law 662 = .ok (.iadd, 1) := by decide +kernel
theorem dL_law_663 : decode cL_law 663 = .ok (.iaload, 1) := by decide +kernel
theorem dL_law_664 : decode cL_law 664 = .ok (.aload_n 0, 1) := by decide +kernel
theorem dL_law_665 : decode cL_law 665 = .ok (.iload_n 3, 1) := by decide +kernel
theorem dL_law_666 : decode cL_law 666 = .ok (.iconst 3, 1) := by decide +kernel
theorem dL_law_667 : decode cL_law 667 = .ok (.iadd, 1) := by decide +kernel
theorem dL_law_668 : decode cL_law 668 = .ok (.iaload, 1) := by decide +kernel
theorem dL_law_669 : decode cL_law 669 = .ok (.invokevirtual 81, 3) := by decide +kernel
theorem dL_law_672 : decode cL_law 672 = .ok (.pop, 1) := by decide +kernel
theorem dL_law_673 : decode cL_law 673 = .ok (.aload_n 2, 1) := by decide +kernel
theorem dL_law_674 : decode cL_law 674 = .ok (.aload_n 0, 1) := by decide +kernel
theorem dL_law_675 : decode cL_law 675 = .ok (.iload_n 3, 1) := by decide +kernel
theorem dL_law_676 : decode cL_law 676 = .ok (.iconst 1, 1) := by decide +kernel
theorem dL_law_677 : decode cL_law 677 = .ok (.iadd, 1) := by decide +kernel
theorem dL_law_678 : decode cL_law 678 = .ok (.iaload, 1) := by decide +kernel
theorem dL_law_679 : decode cL_law 679 = .ok (.aload_n 0, 1) := by decide +kernel
theorem dL_law_680 : decode cL_law 680 = .ok (.iload_n 3, 1) := by decide +kernel
theorem dL_law_681 : decode cL_law 681 = .ok (.iconst 2, 1) := by decide +kernel
theorem dL_law_682 : decode cL_law 682 = .ok (.iadd, 1) := by decide +kernel
theorem dL_law_683 : decode cL_law 683 = .ok (.iaload, 1) := by decide +kernel
theorem dL_law_684 : decode cL_law 684 = .ok (.aload_n 0, 1) := by decide +kernel
theorem dL_law_685 : decode cL_law 685 = .ok (.iload_n 3, 1) := by decide +kernel
theorem dL_law_686 : decode cL_law 686 = .ok (.iconst 3, 1) := by decide +kernel
theorem dL_law_687 : decode cL_law 687 = .ok (.iadd, 1) := by decide +kernel
theorem dL_law_688 : decode cL_law 688 = .ok (.iaload, 1) := by decide +kernel
theorem dL_law_689 : decode cL_law 689 = .ok (.invokevirtual 84, 3) := by decide +kernel
theorem dL_law_692 : decode cL_law 692 = .ok (.pop, 1) := by decide +kernel
theorem dL_law_693 : decode cL_law 693 = .ok (.goto 455, 3) := by decide +kernel
theorem dL_law_696 : decode cL_law 696 = .ok (.aload_n 1, 1) := by decide +kernel
theorem dL_law_697 : decode cL_law 697 = .ok (.aload_n 0, 1) := by decide +kernel
theorem dL_law_698 : decode cL_law 698 = .ok (.iload_n 3, 1) := by decide +kernel
theorem dL_law_699 : decode cL_law 699 = .ok (.iconst 1, 1) := by decide +kernel
theorem dL_law_700 : decode cL_law 700 = .ok (.iadd, 1) := by decide +kernel
theorem dL_law_701 : decode cL_law 701 = .ok (.iaload, 1) := by decide +kernel
theorem dL_law_702 : decode cL_law 702 = .ok (.aload_n 0, 1) := by decide +kernel
theorem dL_law_703 : decode cL_law 703 = .ok (.iload_n 3, 1) := by decide +kernel
theorem dL_law_704 : decode cL_law 704 = .ok (.iconst 2, 1) := by decide +kernel
theorem dL_law_705 : decode cL_law 705 = .ok (.iadd, 1) := by decide +kernel
theorem dL_law_706 : decode cL_law 706 = .ok (.iaload, 1) := by decide +kernel
theorem dL_law_707 : decode cL_law 707 = .ok (.aload_n 0, 1) := by decide +kernel
theorem dL_law_708 : decode cL_law 708 = .ok (.iload_n 3, 1) := by decide +kernel
theorem dL_law_709 : decode cL_law 709 = .ok (.iconst 3, 1) := by decide +kernel
theorem dL_law_710 : decode cL_law 710 = .ok (.iadd, 1) := by decide +kernel
theorem dL_law_711 : decode cL_law 711 = .ok (.iaload, 1) := by decide +kernel
theorem dL_law_712 : decode cL_law 712 = .ok (.invokevirtual 85, 3) := by decide +kernel
theorem dL_law_715 : decode cL_law 715 = .ok (.pop, 1) := by decide +kernel
theorem dL_law_716 : decode cL_law 716 = .ok (.aload_n 2, 1) := by decide +kernel
theorem dL_law_717 : decode cL_law 717 = .ok (.aload_n 0, 1) := by decide +kernel
theorem dL_law_718 : decode cL_law 718 = .ok (.iload_n 3, 1) := by decide +kernel
theorem dL_law_719 : decode cL_law 719 = .ok (.iconst 1, 1) := by decide +kernel
theorem dL_law_720 : decode cL_law 720 = .ok (.iadd, 1) := by decide +kernel
theorem dL_law_721 : decode cL_law 721 = .ok (.iaload, 1) := by decide +kernel
theorem dL_law_722 : decode cL_law 722 = .ok (.aload_n 0, 1) := by decide +kernel
theorem dL_law_723 : decode cL_law 723 = .ok (.iload_n 3, 1) := by decide +kernel
theorem dL_law_724 : decode cL_law 724 = .ok (.iconst 2, 1) := by decide +kernel
theorem dL_law_725 : decode cL_law 725 = .ok (.iadd, 1) := by decide +kernel
theorem dL_law_726 : decode cL_law 726 = .ok (.iaload, 1) := by decide +kernel
theorem dL_law_727 : decode cL_law 727 = .ok (.aload_n 0, 1) := by decide +kernel
theorem dL_law_728 : decode cL_law 728 = .ok (.iload_n 3, 1) := by decide +kernel
theorem dL_law_729 : decode cL_law 729 = .ok (.iconst 3, 1) := by decide +kernel
theorem dL_law_730 : decode cL_law 730 = .ok (.iadd, 1) := by decide +kernel
theorem dL_law_731 : decode cL_law 731 = .ok (.iaload, 1) := by decide +kernel
theorem dL_law_732 : decode cL_law 732 = .ok (.invokevirtual 88, 3) := by decide +kernel
theorem dL_law_735 : decode cL_law 735 = .ok (.pop, 1) := by decide +kernel
theorem dL_law_736 : decode cL_law 736 = .ok (.goto 412, 3) := by decide +kernel
theorem dL_law_739 : decode cL_law 739 = .ok (.aload_n 1, 1) := by decide +kernel
theorem dL_law_740 : decode cL_law 740 = .ok (.aload_n 0, 1) := by decide +kernel
theorem dL_law_741 : decode cL_law 741 = .ok (.iload_n 3, 1) := by decide +kernel
theorem dL_law_742 : decode cL_law 742 = .ok (.iconst 1, 1) := by decide +kernel
theorem dL_law_743 : decode cL_law 743 = .ok (.iadd, 1) := by decide +kernel
theorem dL_law_744 : decode cL_law 744 = .ok (.iaload, 1) := by decide +kernel
theorem dL_law_745 : decode cL_law 745 = .ok (.aload_n 0, 1) := by decide +kernel
theorem dL_law_746 : decode cL_law 746 = .ok (.iload_n 3, 1) := by decide +kernel
theorem dL_law_747 : decode cL_law 747 = .ok (.iconst 2, 1) := by decide +kernel
theorem dL_law_748 : decode cL_law 748 = .ok (.iadd, 1) := by decide +kernel
theorem dL_law_749 : decode cL_law 749 = .ok (.iaload, 1) := by decide +kernel
theorem dL_law_750 : decode cL_law 750 = .ok (.aload_n 0, 1) := by decide +kernel
theorem dL_law_751 : decode cL_law 751 = .ok (.iload_n 3, 1) := by decide +kernel
theorem dL_law_752 : decode cL_law 752 = .ok (.iconst 3, 1) := by decide +kernel
theorem dL_law_753 : decode cL_law 753 = .ok (.iadd, 1) := by decide +kernel
theorem dL_law_754 : decode cL_law 754 = .ok (.iaload, 1) := by decide +kernel
theorem dL_law_755 : decode cL_law 755 = .ok (.invokevirtual 89, 3) := by decide +kernel
theorem dL_law_758 : decode cL_law 758 = .ok (.pop, 1) := by decide +kernel
theorem dL_law_759 : decode cL_law 759 = .ok (.aload_n 2, 1) := by decide +kernel
theorem dL_law_760 : decode cL_law 760 = .ok (.aload_n 0, 1) := by decide +kernel
theorem dL_law_761 : decode cL_law 761 = .ok (.iload_n 3, 1) := by decide +kernel
theorem dL_law_762 : decode cL_law 762 = .ok (.iconst 1, 1) := by decide +kernel
theorem dL_law_763 : decode cL_law 763 = .ok (.iadd, 1) := by decide +kernel
theorem dL_law_764 : decode cL_law 764 = .ok (.iaload, 1) := by decide +kernel
theorem dL_law_765 : decode cL_law 765 = .ok (.aload_n 0, 1) := by decide +kernel
theorem dL_law_766 : decode cL_law 766 = .ok (.iload_n 3, 1) := by decide +kernel
theorem dL_law_767 : decode cL_law 767 = .ok (.iconst 2, 1) := by decide +kernel
theorem dL_law_768 : decode cL_law 768 = .ok (.iadd, 1) := by decide +kernel
theorem dL_law_769 : decode cL_law 769 = .ok (.iaload, 1) := by decide +kernel
theorem dL_law_770 : decode cL_law 770 = .ok (.aload_n 0, 1) := by decide +kernel
theorem dL_law_771 : decode cL_law 771 = .ok (.iload_n 3, 1) := by decide +kernel
theorem dL_law_772 : decode cL_law 772 = .ok (.iconst 3, 1) := by decide +kernel
theorem dL_law_773 : decode cL_law 773 = .ok (.iadd, 1) := by decide +kernel
theorem dL_law_774 : decode cL_law 774 = .ok (.iaload, 1) := by decide +kernel
theorem dL_law_775 : decode cL_law 775 = .ok (.invokevirtual 92, 3) := by decide +kernel
theorem dL_law_778 : decode cL_law 778 = .ok (.pop, 1) := by decide +kernel
theorem dL_law_779 : decode cL_law 779 = .ok (.goto 369, 3) := by decide +kernel
theorem dL_law_782 : decode cL_law 782 = .ok (.aload_n 1, 1) := by decide +kernel
theorem dL_law_783 : decode cL_law 783 = .ok (.aload_n 0, 1) := by decide +kernel
theorem dL_law_784 : decode cL_law 784 = .ok (.iload_n 3, 1) := by decide +kernel
theorem dL_law_785 : decode cL_law 785 = .ok (.iconst 1, 1) := by decide +kernel
theorem dL_law_786 : decode cL_law 786 = .ok (.iadd, 1) := by decide +kernel
theorem dL_law_787 : decode cL_law 787 = .ok (.iaload, 1) := by decide +kernel
theorem dL_law_788 : decode cL_law 788 = .ok (.aload_n 0, 1) := by decide +kernel
theorem dL_law_789 : decode cL_law 789 = .ok (.iload_n 3, 1) := by decide +kernel
theorem dL_law_790 : decode cL_law 790 = .ok (.iconst 2, 1) := by decide +kernel
theorem dL_law_791 : decode cL_law 791 = .ok (.iadd, 1) := by decide +kernel
theorem dL_law_792 : decode cL_law 792 = .ok (.iaload, 1) := by decide +kernel
theorem dL_law_793 : decode cL_law 793 = .ok (.invokevirtual 93, 3) := by decide +kernel
theorem dL_law_796 : decode cL_law 796 = .ok (.pop, 1) := by decide +kernel
theorem dL_law_797 : decode cL_law 797 = .ok (.aload_n 2, 1) := by decide +kernel
theorem dL_law_798 : decode cL_law 798 = .ok (.aload_n 0, 1) := by decide +kernel
theorem dL_law_799 : decode cL_law 799 = .ok (.iload_n 3, 1) := by decide +kernel
theorem dL_law_800 : decode cL_law 800 = .ok (.iconst 1, 1) := by decide +kernel
theorem dL_law_801 : decode cL_law 801 = .ok (.iadd, 1) := by decide +kernel
theorem dL_law_802 : decode cL_law 802 = .ok (.iaload, 1) := by decide +kernel
theorem dL_law_803 : decode cL_law 803 = .ok (.aload_n 0, 1) := by decide +kernel
theorem dL_law_804 : decode cL_law 804 = .ok (.iload_n 3, 1) := by decide +kernel
theorem dL_law_805 : decode cL_law 805 = .ok (.iconst 2, 1) := by decide +kernel
theorem dL_law_806 : decode cL_law 806 = .ok (.iadd, 1) := by decide +kernel
theorem dL_law_807 : decode cL_law 807 = .ok (.iaload, 1) := by decide +kernel
theorem dL_law_808 : decode cL_law 808 = .ok (.invokevirtual 96, 3) := by decide +kernel
theorem dL_law_811 : decode cL_law 811 = .ok (.pop, 1) := by decide +kernel
theorem dL_law_812 : decode cL_law 812 = .ok (.goto 336, 3) := by decide +kernel
theorem dL_law_815 : decode cL_law 815 = .ok (.aload_n 1, 1) := by decide +kernel
theorem dL_law_816 : decode cL_law 816 = .ok (.aload_n 0, 1) := by decide +kernel
theorem dL_law_817 : decode cL_law 817 = .ok (.iload_n 3, 1) := by decide +kernel
theorem dL_law_818 : decode cL_law 818 = .ok (.iconst 1, 1) := by decide +kernel
theorem dL_law_819 : decode cL_law 819 = .ok (.iadd, 1) := by decide +kernel
theorem dL_law_820 : decode cL_law 820 = .ok (.iaload, 1) := by decide +kernel
theorem dL_law_821 : decode cL_law 821 = .ok (.aload_n 0, 1) := by decide +kernel
theorem dL_law_822 : decode cL_law 822 = .ok (.iload_n 3, 1) := by decide +kernel
theorem dL_law_823 : decode cL_law 823 = .ok (.iconst 2, 1) := by decide +kernel
theorem dL_law_824 : decode cL_law 824 = .ok (.iadd, 1) := by decide +kernel
theorem dL_law_825 : decode cL_law 825 = .ok (.iaload, 1) := by decide +kernel
theorem dL_law_826 : decode cL_law 826 = .ok (.aload_n 0, 1) := by decide +kernel
theorem dL_law_827 : decode cL_law 827 = .ok (.iload_n 3, 1) := by decide +kernel
theorem dL_law_828 : decode cL_law 828 = .ok (.iconst 3, 1) := by decide +kernel
theorem dL_law_829 : decode cL_law 829 = .ok (.iadd, 1) := by decide +kernel
theorem dL_law_830 : decode cL_law 830 = .ok (.iaload, 1) := by decide +kernel
theorem dL_law_831 : decode cL_law 831 = .ok (.invokevirtual 97, 3) := by decide +kernel
theorem dL_law_834 : decode cL_law 834 = .ok (.pop, 1) := by decide +kernel
theorem dL_law_835 : decode cL_law 835 = .ok (.aload_n 2, 1) := by decide +kernel
theorem dL_law_836 : decode cL_law 836 = .ok (.aload_n 0, 1) := by decide +kernel
theorem dL_law_837 : decode cL_law 837 = .ok (.iload_n 3, 1) := by decide +kernel
theorem dL_law_838 : decode cL_law 838 = .ok (.iconst 1, 1) := by decide +kernel
theorem dL_law_839 : decode cL_law 839 = .ok (.iadd, 1) := by decide +kernel
theorem dL_law_840 : decode cL_law 840 = .ok (.iaload, 1) := by decide +kernel
theorem dL_law_841 : decode cL_law 841 = .ok (.aload_n 0, 1) := by decide +kernel
theorem dL_law_842 : decode cL_law 842 = .ok (.iload_n 3, 1) := by decide +kernel
theorem dL_law_843 : decode cL_law 843 = .ok (.iconst 2, 1) := by decide +kernel
theorem dL_law_844 : decode cL_law 844 = .ok (.iadd, 1) := by decide +kernel
theorem dL_law_845 : decode cL_law 845 = .ok (.iaload, 1) := by decide +kernel
theorem dL_law_846 : decode cL_law 846 = .ok (.aload_n 0, 1) := by decide +kernel
theorem dL_law_847 : decode cL_law 847 = .ok (.iload_n 3, 1) := by decide +kernel
theorem dL_law_848 : decode cL_law 848 = .ok (.iconst 3, 1) := by decide +kernel
theorem dL_law_849 : decode cL_law 849 = .ok (.iadd, 1) := by decide +kernel
theorem dL_law_850 : decode cL_law 850 = .ok (.iaload, 1) := by decide +kernel
theorem dL_law_851 : decode cL_law 851 = .ok (.invokevirtual 100, 3) := by decide +kernel
theorem dL_law_854 : decode cL_law 854 = .ok (.pop, 1) := by decide +kernel
theorem dL_law_855 : decode cL_law 855 = .ok (.goto 293, 3) := by decide +kernel
theorem dL_law_858 : decode cL_law 858 = .ok (.aload_n 1, 1) := by decide +kernel
theorem dL_law_859 : decode cL_law 859 = .ok (.aload_n 0, 1) := by decide +kernel
theorem dL_law_860 : decode cL_law 860 = .ok (.iload_n 3, 1) := by decide +kernel
theorem dL_law_861 : decode cL_law 861 = .ok (.iconst 1, 1) := by decide +kernel
theorem dL_law_862 : decode cL_law 862 = .ok (.iadd, 1) := by decide +kernel
theorem dL_law_863 : decode cL_law 863 = .ok (.iaload, 1) := by decide +kernel
theorem dL_law_864 : decode cL_law 864 = .ok (.invokevirtual 101, 3) := by decide +kernel
theorem dL_law_867 : decode cL_law 867 = .ok (.pop, 1) := by decide +kernel
theorem dL_law_868 : decode cL_law 868 = .ok (.aload_n 2, 1) := by decide +kernel
theorem dL_law_869 : decode cL_law 869 = .ok (.aload_n 0, 1) := by decide +kernel
theorem dL_law_870 : decode cL_law 870 = .ok (.iload_n 3, 1) := by decide +kernel
theorem dL_law_871 : decode cL_law 871 = .ok (.iconst 1, 1) := by decide +kernel
theorem dL_law_872 : decode cL_law 872 = .ok (.iadd, 1) := by decide +kernel
theorem dL_law_873 : decode cL_law 873 = .ok (.iaload, 1) := by decide +kernel
theorem dL_law_874 : decode cL_law 874 = .ok (.invokevirtual 104, 3) := by decide +kernel
theorem dL_law_877 : decode cL_law 877 = .ok (.pop, 1) := by decide +kernel
theorem dL_law_878 : decode cL_law 878 = .ok (.goto 270, 3) := by decide +kernel
theorem dL_law_881 : decode cL_law 881 = .ok (.aload_n 1, 1) := by decide +kernel
theorem dL_law_882 : decode cL_law 882 = .ok (.aload_n 0, 1) := by decide +kernel
theorem dL_law_883 : decode cL_law 883 = .ok (.iload_n 3, 1) := by decide +kernel
theorem dL_law_884 : decode cL_law 884 = .ok (.iconst 1, 1) := by decide +kernel
theorem dL_law_885 : decode cL_law 885 = .ok (.iadd, 1) := by decide +kernel
theorem dL_law_886 : decode cL_law 886 = .ok (.iaload, 1) := by decide +kernel
theorem dL_law_887 : decode cL_law 887 = .ok (.aload_n 0, 1) := by decide +kernel
theorem dL_law_888 : decode cL_law 888 = .ok (.iload_n 3, 1) := by decide +kernel
theorem dL_law_889 : decode cL_law 889 = .ok (.iconst 2, 1) := by decide +kernel
theorem dL_law_890 : decode cL_law 890 = .ok (.iadd, 1) := by decide +kernel
theorem dL_law_891 : decode cL_law 891 = .ok (.iaload, 1) := by decide +kernel
theorem dL_law_892 : decode cL_law 892 = .ok (.aload_n 0, 1) := by decide +kernel
theorem dL_law_893 : decode cL_law 893 = .ok (.iload_n 3, 1) := by decide +kernel
theorem dL_law_894 : decode cL_law 894 = .ok (.iconst 3, 1) := by decide +kernel
theorem dL_law_895 : decode cL_law 895 = .ok (.iadd, 1) := by decide +kernel
theorem dL_law_896 : decode cL_law 896 = .ok (.iaload, 1) := by decide +kernel
theorem dL_law_897 : decode cL_law 897 = .ok (.invokevirtual 105, 3) := by decide +kernel
theorem dL_law_900 : decode cL_law 900 = .ok (.pop, 1) := by decide +kernel
theorem dL_law_901 : decode cL_law 901 = .ok (.aload_n 2, 1) := by decide +kernel
theorem dL_law_902 : decode cL_law 902 = .ok (.aload_n 0, 1) := by decide +kernel
theorem dL_law_903 : decode cL_law 903 = .ok (.iload_n 3, 1) := by decide +kernel
theorem dL_law_904 : decode cL_law 904 = .ok (.iconst 1, 1) := by decide +kernel
theorem dL_law_905 : decode cL_law 905 = .ok (.iadd, 1) := by decide +kernel
theorem dL_law_906 : decode cL_law 906 = .ok (.iaload, 1) := by decide +kernel
theorem dL_law_907 : decode cL_law 907 = .ok (.aload_n 0, 1) := by decide +kernel
theorem dL_law_908 : decode cL_law 908 = .ok (.iload_n 3, 1) := by decide +kernel
theorem dL_law_909 : decode cL_law 909 = .ok (.iconst 2, 1) := by decide +kernel
theorem dL_law_910 : decode cL_law 910 = .ok (.iadd, 1) := by decide +kernel
theorem dL_law_911 : decode cL_law 911 = .ok (.iaload, 1) := by decide +kernel
theorem dL_law_912 : decode cL_law 912 = .ok (.aload_n 0, 1) := by decide +kernel
theorem dL_law_913 : decode cL_law 913 = .ok (.iload_n 3, 1) := by decide +kernel
theorem dL_law_914 : decode cL_law 914 = .ok (.iconst 3, 1) := by decide +kernel
theorem dL_law_915 : decode cL_law 915 = .ok (.iadd, 1) := by decide +kernel
theorem dL_law_916 : decode cL_law 916 = .ok (.iaload, 1) := by decide +kernel
theorem dL_law_917 : decode cL_law 917 = .ok (.invokevirtual 108, 3) := by decide +kernel
theorem dL_law_920 : decode cL_law 920 = .ok (.pop, 1) := by decide +kernel
theorem dL_law_921 : decode cL_law 921 = .ok (.goto 227, 3) := by decide +kernel
theorem dL_law_924 : decode cL_law 924 = .ok (.aload_n 1, 1) := by decide +kernel
theorem dL_law_925 : decode cL_law 925 = .ok (.aload_n 0, 1) := by decide +kernel
theorem dL_law_926 : decode cL_law 926 = .ok (.iload_n 3, 1) := by decide +kernel
theorem dL_law_927 : decode cL_law 927 = .ok (.iconst 1, 1) := by decide +kernel
theorem dL_law_928 : decode cL_law 928 = .ok (.iadd, 1) := by decide +kernel
theorem dL_law_929 : decode cL_law 929 = .ok (.iaload, 1) := by decide +kernel
theorem dL_law_930 : decode cL_law 930 = .ok (.aload_n 0, 1) := by decide +kernel
theorem dL_law_931 : decode cL_law 931 = .ok (.iload_n 3, 1) := by decide +kernel
theorem dL_law_932 : decode cL_law 932 = .ok (.iconst 2, 1) := by decide +kernel
theorem dL_law_933 : decode cL_law 933 = .ok (.iadd, 1) := by decide +kernel
theorem dL_law_934 : decode cL_law 934 = .ok (.iaload, 1) := by decide +kernel
theorem dL_law_935 : decode cL_law 935 = .ok (.invokevirtual 109, 3) := by decide +kernel
theorem dL_law_938 : decode cL_law 938 = .ok (.pop, 1) := by decide +kernel
theorem dL_law_939 : decode cL_law 939 = .ok (.aload_n 2, 1) := by decide +kernel
theorem dL_law_940 : decode cL_law 940 = .ok (.aload_n 0, 1) := by decide +kernel
theorem dL_law_941 : decode cL_law 941 = .ok (.iload_n 3, 1) := by decide +kernel
theorem dL_law_942 : decode cL_law 942 = .ok (.iconst 1, 1) := by decide +kernel
theorem dL_law_943 : decode cL_law 943 = .ok (.iadd, 1) := by decide +kernel
theorem dL_law_944 : decode cL_law 944 = .ok (.iaload, 1) := by decide +kernel
theorem dL_law_945 : decode cL_law 945 = .ok (.aload_n 0, 1) := by decide +kernel
theorem dL_law_946 : decode cL_law 946 = .ok (.iload_n 3, 1) := by decide +kernel
theorem dL_law_947 : decode cL_law 947 = .ok (.iconst 2, 1) := by decide +kernel
theorem dL_law_948 : decode cL_law 948 = .ok (.iadd, 1) := by decide +kernel
theorem dL_law_949 : decode cL_law 949 = .ok (.iaload, 1) := by decide +kernel
theorem dL_law_950 : decode cL_law 950 = .ok (.invokevirtual 112, 3) := by decide +kernel
theorem dL_law_953 : decode cL_law 953 = .ok (.pop, 1) := by decide +kernel
theorem dL_law_954 : decode cL_law 954 = .ok (.goto 194, 3) := by decide +kernel
theorem dL_law_957 : decode cL_law 957 = .ok (.aload_n 1, 1) := by decide +kernel
theorem dL_law_958 : decode cL_law 958 = .ok (.aload_n 0, 1) := by decide +kernel
theorem dL_law_959 : decode cL_law 959 = .ok (.iload_n 3, 1) := by decide +kernel
theorem dL_law_960 : decode cL_law 960 = .ok (.iconst 1, 1) := by decide +kernel
theorem dL_law_961 : decode cL_law 961 = .ok (.iadd, 1) := by decide +kernel
theorem dL_law_962 : decode cL_law 962 = .ok (.iaload, 1) := by decide +kernel
theorem dL_law_963 : decode cL_law 963 = .ok (.aload_n 0, 1) := by decide +kernel
theorem dL_law_964 : decode cL_law 964 = .ok (.iload_n 3, 1) := by decide +kernel
theorem dL_law_965 : decode cL_law 965 = .ok (.iconst 2, 1) := by decide +kernel
theorem dL_law_966 : decode cL_law 966 = .ok (.iadd, 1) := by decide +kernel
theorem dL_law_967 : decode cL_law 967 = .ok (.iaload, 1) := by decide +kernel
theorem dL_law_968 : decode cL_law 968 = .ok (.invokevirtual 113, 3) := by decide +kernel
theorem dL_law_971 : decode cL_law 971 = .ok (.pop, 1) := by decide +kernel
theorem dL_law_972 : decode cL_law 972 = .ok (.aload_n 2, 1) := by decide +kernel
theorem dL_law_973 : decode cL_law 973 = .ok (.aload_n 0, 1) := by decide +kernel
theorem dL_law_974 : decode cL_law 974 = .ok (.iload_n 3, 1) := by decide +kernel
theorem dL_law_975 : decode cL_law 975 = .ok (.iconst 1, 1) := by decide +kernel
theorem dL_law_976 : decode cL_law 976 = .ok (.iadd, 1) := by decide +kernel
theorem dL_law_977 : decode cL_law 977 = .ok (.iaload, 1) := by decide +kernel
theorem dL_law_978 : decode cL_law 978 = .ok (.aload_n 0, 1) := by decide +kernel
theorem dL_law_979 : decode cL_law 979 = .ok (.iload_n 3, 1) := by decide +kernel
theorem dL_law_980 : decode cL_law 980 = .ok (.iconst 2, 1) := by decide +kernel
theorem dL_law_981 : decode cL_law 981 = .ok (.iadd, 1) := by decide +kernel
theorem dL_law_982 : decode cL_law 982 = .ok (.iaload, 1) := by decide +kernel
theorem dL_law_983 : decode cL_law 983 = .ok (.invokevirtual 116, 3) := by decide +kernel
theorem dL_law_986 : decode cL_law 986 = .ok (.pop, 1) := by decide +kernel
theorem dL_law_987 : decode cL_law 987 = .ok (.goto 161, 3) := by decide +kernel
theorem dL_law_990 : decode cL_law 990 = .ok (.aload_n 1, 1) := by decide +kernel
theorem dL_law_991 : decode cL_law 991 = .ok (.aload_n 0, 1) := by decide +kernel
theorem dL_law_992 : decode cL_law 992 = .ok (.iload_n 3, 1) := by decide +kernel
theorem dL_law_993 : decode cL_law 993 = .ok (.iconst 1, 1) := by decide +kernel
theorem dL_law_994 : decode cL_law 994 = .ok (.iadd, 1) := by decide +kernel
theorem dL_law_995 : decode cL_law 995 = .ok (.iaload, 1) := by decide +kernel
theorem dL_law_996 : decode cL_law 996 = .ok (.aload_n 0, 1) := by decide +kernel
theorem dL_law_997 : decode cL_law 997 = .ok (.iload_n 3, 1) := by decide +kernel
theorem dL_law_998 : decode cL_law 998 = .ok (.iconst 2, 1) := by decide +kernel
theorem dL_law_999 : decode cL_law 999 = .ok (.iadd, 1) := by decide +kernel
theorem dL_law_1000 : decode cL_law 1000 = .ok (.iaload, 1) := by decide +kernel
theorem dL_law_1001 : decode cL_law 1001 = .ok (.aload_n 0, 1) := by decide +kernel
theorem dL_law_1002 : decode cL_law 1002 = .ok (.iload_n 3, 1) := by decide +kernel
theorem dL_law_1003 : decode cL_law 1003 = .ok (.iconst 3, 1) := by decide +kernel
theorem dL_law_1004 : decode cL_law 1004 = .ok (.iadd, 1) := by decide +kernel
theorem dL_law_1005 : decode cL_law 1005 = .ok (.iaload, 1) := by decide +kernel
theorem dL_law_1006 : decode cL_law 1006 = .ok (.aload_n 0, 1) := by decide +kernel
theorem dL_law_1007 : decode cL_law 1007 = .ok (.iload_n 3, 1) := by decide +kernel
theorem dL_law_1008 : decode cL_law 1008 = .ok (.iconst 4, 1) := by decide +kernel
theorem dL_law_1009 : decode cL_law 1009 = .ok (.iadd, 1) := by decide +kernel
theorem dL_law_1010 : decode cL_law 1010 = .ok (.iaload, 1) := by decide +kernel
theorem dL_law_1011 : decode cL_law 1011 = .ok (.aload_n 0, 1) := by decide +kernel
theorem dL_law_1012 : decode cL_law 1012 = .ok (.iload_n 3, 1) := by decide +kernel
theorem dL_law_1013 : decode cL_law 1013 = .ok (.iconst 5, 1) := by decide +kernel
theorem dL_law_1014 : decode cL_law 1014 = .ok (.iadd, 1) := by decide +kernel
theorem dL_law_1015 : decode cL_law 1015 = .ok (.iaload, 1) := by decide +kernel
theorem dL_law_1016 : decode cL_law 1016 = .ok (.invokevirtual 117, 3) := by decide +kernel
theorem dL_law_1019 : decode cL_law 1019 = .ok (.pop, 1) := by decide +kernel
theorem dL_law_1020 : decode cL_law 1020 = .ok (.aload_n 2, 1) := by decide +kernel
theorem dL_law_1021 : decode cL_law 1021 = .ok (.aload_n 0, 1) := by decide +kernel
theorem dL_law_1022 : decode cL_law 1022 = .ok (.iload_n 3, 1) := by decide +kernel
theorem dL_law_1023 : decode cL_law 1023 = .ok (.iconst 1, 1) := by decide +kernel
theorem dL_law_1024 : decode cL_law 1024 = .ok (.iadd, 1) := by decide +kernel
theorem dL_law_1025 : decode cL_law 1025 = .ok (.iaload, 1) := by decide +kernel
theorem dL_law_1026 : decode cL_law 1026 = .ok (.aload_n 0, 1) := by decide +kernel
theorem dL_law_1027 : decode cL_law 1027 = .ok (.iload_n 3, 1) := by decide +kernel
theorem dL_law_1028 : decode cL_law 1028 = .ok (.iconst 2, 1) := by decide +kernel
theorem dL_law_1029 : decode cL_law 1029 = .ok (.iadd, 1) := by decide +kernel
theorem dL_law_1030 : decode cL_law 1030 = .ok (.iaload, 1) := by decide +kernel
theorem dL_law_1031 : decode cL_law 1031 = .ok (.aload_n 0, 1) := by decide +kernel
theorem dL_law_1032 : decode cL_law 1032 = .ok (.iload_n 3, 1) := by decide +kernel
theorem dL_law_1033 : decode cL_law 1033 = .ok (.iconst 3, 1) := by decide +kernel
theorem dL_law_1034 : decode cL_law 1034 = .ok (.iadd, 1) := by decide +kernel
theorem dL_law_1035 : decode cL_law 1035 = .ok (.iaload, 1) := by decide +kernel
theorem dL_law_1036 : decode cL_law 1036 = .ok (.aload_n 0, 1) := by decide +kernel
theorem dL_law_1037 : decode cL_law 1037 = .ok (.iload_n 3, 1) := by decide +kernel
theorem dL_law_1038 : decode cL_law 1038 = .ok (.iconst 4, 1) := by decide +kernel
theorem dL_law_1039 : decode cL_law 1039 = .ok (.iadd, 1) := by decide +kernel
theorem dL_law_1040 : decode cL_law 1040 = .ok (.iaload, 1) := by decide +kernel
theorem dL_law_1041 : decode cL_law 1041 = .ok (.aload_n 0, 1) := by decide +kernel
theorem dL_law_1042 : decode cL_law 1042 = .ok (.iload_n 3, 1) := by decide +kernel
theorem dL_law_1043 : decode cL_law 1043 = .ok (.iconst 5, 1) := by decide +kernel
theorem dL_law_1044 : decode cL_law 1044 = .ok (.iadd, 1) := by decide +kernel
theorem dL_law_1045 : decode cL_law 1045 = .ok (.iaload, 1) := by decide +kernel
theorem dL_law_1046 : decode cL_law 1046 = .ok (.invokevirtual 120, 3) := by decide +kernel
theorem dL_law_1049 : decode cL_law 1049 = .ok (.pop, 1) := by decide +kernel
theorem dL_law_1050 : decode cL_law 1050 = .ok (.goto 98, 3) := by decide +kernel
theorem dL_law_1053 : decode cL_law 1053 = .ok (.aload_n 1, 1) := by decide +kernel
theorem dL_law_1054 : decode cL_law 1054 = .ok (.aload_n 0, 1) := by decide +kernel
theorem dL_law_1055 : decode cL_law 1055 = .ok (.iload_n 3, 1) := by decide +kernel
theorem dL_law_1056 : decode cL_law 1056 = .ok (.iconst 1, 1) := by decide +kernel
theorem dL_law_1057 : decode cL_law 1057 = .ok (.iadd, 1) := by decide +kernel
theorem dL_law_1058 : decode cL_law 1058 = .ok (.iaload, 1) := by decide +kernel
theorem dL_law_1059 : decode cL_law 1059 = .ok (.invokevirtual 121, 3) := by decide +kernel
theorem dL_law_1062 : decode cL_law 1062 = .ok (.pop, 1) := by decide +kernel
theorem dL_law_1063 : decode cL_law 1063 = .ok (.aload_n 2, 1) := by decide +kernel
theorem dL_law_1064 : decode cL_law 1064 = .ok (.aload_n 0, 1) := by decide +kernel
theorem dL_law_1065 : decode cL_law 1065 = .ok (.iload_n 3, 1) := by decide +kernel
theorem dL_law_1066 : decode cL_law 1066 = .ok (.iconst 1, 1) := by decide +kernel
theorem dL_law_1067 : decode cL_law 1067 = .ok (.iadd, 1) := by decide +kernel
theorem dL_law_1068 : decode cL_law 1068 = .ok (.iaload, 1) := by decide +kernel
theorem dL_law_1069 : decode cL_law 1069 = .ok (.invokevirtual 124, 3) := by decide +kernel
theorem dL_law_1072 : decode cL_law 1072 = .ok (.pop, 1) := by decide +kernel
theorem dL_law_1073 : decode cL_law 1073 = .ok (.goto 75, 3) := by decide +kernel
theorem dL_law_1076 : decode cL_law 1076 = .ok (.aload_n 1, 1) := by decide +kernel
theorem dL_law_1077 : decode cL_law 1077 = .ok (.invokevirtual 125, 3) := by decide +kernel
theorem dL_law_1080 : decode cL_law 1080 = .ok (.pop, 1) := by decide +kernel
theorem dL_law_1081 : decode cL_law 1081 = .ok (.aload_n 2, 1) := by decide +kernel
theorem dL_law_1082 : decode cL_law 1082 = .ok (.invokevirtual 128, 3) := by decide +kernel
theorem dL_law_1085 : decode cL_law 1085 = .ok (.pop, 1) := by decide +kernel
theorem dL_law_1086 : decode cL_law 1086 = .ok (.goto 62, 3) := by decide +kernel
theorem dL_law_1089 : decode cL_law 1089 = .ok (.aload_n 1, 1) := by decide +kernel
theorem dL_law_1090 : decode cL_law 1090 = .ok (.invokevirtual 129, 3) := by decide +kernel
theorem dL_law_1093 : decode cL_law 1093 = .ok (.pop, 1) := by decide +kernel
theorem dL_law_1094 : decode cL_law 1094 = .ok (.aload_n 2, 1) := by decide +kernel
theorem dL_law_1095 : decode cL_law 1095 = .ok (.invokevirtual 133, 3) := by decide +kernel
theorem dL_law_1098 : decode cL_law 1098 = .ok (.pop, 1) := by decide +kernel
theorem dL_law_1099 : decode cL_law 1099 = .ok (.goto 49, 3) := by decide +kernel
theorem dL_law_1102 : decode cL_law 1102 = .ok (.aload_n 1, 1) := by decide +kernel
theorem dL_law_1103 : decode cL_law 1103 = .ok (.aload_n 0, 1) := by decide +kernel
theorem dL_law_1104 : decode cL_law 1104 = .ok (.iload_n 3, 1) := by decide +kernel
theorem dL_law_1105 : decode cL_law 1105 = .ok (.iconst 1, 1) := by decide +kernel
theorem dL_law_1106 : decode cL_law 1106 = .ok (.iadd, 1) := by decide +kernel
theorem dL_law_1107 : decode cL_law 1107 = .ok (.iaload, 1) := by decide +kernel
theorem dL_law_1108 : decode cL_law 1108 = .ok (.invokevirtual 134, 3) := by decide +kernel
theorem dL_law_1111 : decode cL_law 1111 = .ok (.pop, 1) := by decide +kernel
theorem dL_law_1112 : decode cL_law 1112 = .ok (.aload_n 2, 1) := by decide +kernel
theorem dL_law_1113 : decode cL_law 1113 = .ok (.aload_n 0, 1) := by decide +kernel
theorem dL_law_1114 : decode cL_law 1114 = .ok (.iload_n 3, 1) := by decide +kernel
theorem dL_law_1115 : decode cL_law 1115 = .ok (.iconst 1, 1) := by decide +kernel
theorem dL_law_1116 : decode cL_law 1116 = .ok (.iadd, 1) := by decide +kernel
theorem dL_law_1117 : decode cL_law 1117 = .ok (.iaload, 1) := by decide +kernel
theorem dL_law_1118 : decode cL_law 1118 = .ok (.invokevirtual 137, 3) := by decide +kernel
theorem dL_law_1121 : decode cL_law 1121 = .ok (.pop, 1) := by decide +kernel
theorem dL_law_1122 : decode cL_law 1122 = .ok (.goto 26, 3) := by decide +kernel
theorem dL_law_1125 : decode cL_law 1125 = .ok (.aload_n 1, 1) := by decide +kernel
theorem dL_law_1126 : decode cL_law 1126 = .ok (.aload_n 0, 1) := by decide +kernel
theorem dL_law_1127 : decode cL_law 1127 = .ok (.iload_n 3, 1) := by decide +kernel
theorem dL_law_1128 : decode cL_law 1128 = .ok (.iconst 1, 1) := by decide +kernel
theorem dL_law_1129 : decode cL_law 1129 = .ok (.iadd, 1) := by decide +kernel
theorem dL_law_1130 : decode cL_law 1130 = .ok (.iaload, 1) := by decide +kernel
theorem dL_law_1131 : decode cL_law 1131 = .ok (.invokevirtual 138, 3) := by decide +kernel
theorem dL_law_1134 : decode cL_law 1134 = .ok (.pop, 1) := by decide +kernel
theorem dL_law_1135 : decode cL_law 1135 = .ok (.aload_n 2, 1) := by decide +kernel
theorem dL_law_1136 : decode cL_law 1136 = .ok (.aload_n 0, 1) := by decide +kernel
theorem dL_law_1137 : decode cL_law 1137 = .ok (.iload_n 3, 1) := by decide +kernel
theorem dL_law_1138 : decode cL_law 1138 = .ok (.iconst 1, 1) := by decide +kernel
theorem dL_law_1139 : decode cL_law 1139 = .ok (.iadd, 1) := by decide +kernel
theorem dL_law_1140 : decode cL_law 1140 = .ok (.iaload, 1) := by decide +kernel
theorem dL_law_1141 : decode cL_law 1141 = .ok (.invokevirtual 141, 3) := by decide +kernel
theorem dL_law_1144 : decode cL_law 1144 = .ok (.pop, 1) := by decide +kernel
theorem dL_law_1145 : decode cL_law 1145 = .ok (.goto 3, 3) := by decide +kernel
theorem dL_law_1148 : decode cL_law 1148 = .ok (.iinc 3 6, 3) := by decide +kernel
theorem dL_law_1151 : decode cL_law 1151 = .ok (.goto (-1133), 3) := by decide +kernel
theorem dL_law_1154 : decode cL_law 1154 = .ok (.iconst 1, 1) := by decide +kernel
theorem dL_law_1155 : decode cL_law 1155 = .ok (.ireturn, 1) := by decide +kernel
set_option maxRecDepth 20000 in
set_option maxHeartbeats 4000000 in
theorem law_case_0 {E : xE} {p : Program} {l : Launch} {e : Env} {s : State} {m : MethodId} {below : List Frame} {meth : Method} {c : Code} {b L : Nat} {xs : Nat → Int32} {x mm i : Nat} {k P H Pk Hk : Int32} {wx wm : va_W} (hS : LC E p s m meth c b L xs) (hB : HB E) (hL : L ≤ 3072) (hi : i + 6 ≤ L) (hx : FX E x k P H Pk Hk wx) (hm : FM E mm k P H Pk Hk wm) (kk : ∀ (k P H Pk Hk : Int32) (wx wm : va_W), FX E x k P H Pk Hk wx → FM E mm k P H Pk Hk wm → LX E p l e s m below meth c b (wm ++ wx) 1148 [(3, .int (nI i)), (2, .ref mm), (1, .ref x), (0, .ref b)] []) : LX E p l e s m below meth c b (wm ++ wx) 168 [(3, .int (nI i)), (2, .ref mm), (1, .ref x), (0, .ref b)] [] := by
  have C := hS.1
  obtain ⟨ax, rfl, hWx, hJx⟩ := hx
  obtain ⟨am, cdm, rfl, hGm, hWm⟩ := hm
  obtain ⟨_, rx, v5, rfl⟩ := hWx 0 _ rfl
  obtain ⟨_, rm, hm0⟩ := hWm 0 _ rfl
  obtain ⟨_, _, _, _, _, _, _, _, _, _, _, _, _, _, _, _, _, _, _, _, _, _, _, _, _, rfl⟩ := hm0
  refine x_aload_n C dL_law_168 rfl 2 rfl rfl ?_
  refine x_aload_n C dL_law_169 rfl 3 rfl rfl ?_
  refine x_iload_n C dL_law_170 rfl 0 rfl rfl ?_
  refine x_iconst C (v := 1) dL_law_171 (by decide) rfl ?_
  refine x_iadd C (v := nI (i + 1)) dL_law_172 (nI_add i 1) rfl ?_
  refine x_sld C hS.2.1 hS.2.2.1 hS.2.2.2.1 (i + 1) (nI_clamp (by omega)) (nI_pos (by omega)) (by omega) dL_law_173 rfl ?_
  refine x_vk C (As := [.int (xs (i + 1))]) (rest := []) (W0 := wm) (wc := wx) (c_personJ E l ax wx hWx (xs (i + 1)) k P H Pk Hk hJx) mf_X11_person w_443 rfl 0 rx rfl rfl rfl (Nat.le_of_ble_eq_true rfl) ⟨(Nat.le_of_ble_eq_true rfl), (Nat.le_of_ble_eq_true rfl)⟩ ⟨(Nat.le_of_ble_eq_true rfl), (Nat.le_of_ble_eq_true rfl)⟩ dL_law_174 rfl (fun r1 w1 h1 => ?_)
  refine x_pop C dL_law_177 rfl rfl ?_
  refine x_aload_n C dL_law_178 rfl 1 rfl rfl ?_
  refine x_aload_n C dL_law_179 rfl 3 rfl rfl ?_
  refine x_iload_n C dL_law_180 rfl 0 rfl rfl ?_
  refine x_iconst C (v := 1) dL_law_181 (by decide) rfl ?_
  refine x_iadd C (v := nI (i + 1)) dL_law_182 (nI_add i 1) rfl ?_
  refine x_sld C hS.2.1 hS.2.2.1 hS.2.2.2.1 (i + 1) (nI_clamp (by omega)) (nI_pos (by omega)) (by omega) dL_law_183 rfl ?_
  refine x_swap ?_
  refine x_vk C (As := [.int (xs (i + 1))]) (rest := []) (W0 := w1) (wc := wm) (m_personX E l am cdm hGm k none none (some (Pk, Hk)) P H wm hWm (xs (i + 1))) mf_X12_person w_1263 rfl 0 rm rfl rfl rfl (Nat.le_of_ble_eq_true rfl) ⟨(Nat.le_of_ble_eq_true rfl), (Nat.le_of_ble_eq_true rfl)⟩ ⟨(Nat.le_of_ble_eq_true rfl), (Nat.le_of_ble_eq_true rfl)⟩ dL_law_184 rfl (fun r2 w2 h2 => ?_)
  refine x_swap ?_
  refine x_pop C dL_law_187 rfl rfl ?_
  refine x_goto C (tgt := 1148) dL_law_188 (by decide) ?_
  exact kk k (pT P (xs (i + 1))) H Pk Hk w1 w2 ⟨ax, rfl, h1.1, h1.2.2.1⟩ ⟨am, cdm, rfl, hGm, h2.1⟩
set_option maxRecDepth 20000 in
set_option maxHeartbeats 4000000 in
theorem law_case_1 {E : xE} {p : Program} {l : Launch} {e : Env} {s : State} {m : MethodId} {below : List Frame} {meth : Method} {c : Code} {b L : Nat} {xs : Nat → Int32} {x mm i : Nat} {k P H Pk Hk : Int32} {wx wm : va_W} (hS : LC E p s m meth c b L xs) (hB : HB E) (hL : L ≤ 3072) (hi : i + 6 ≤ L) (hx : FX E x k P H Pk Hk wx) (hm : FM E mm k P H Pk Hk wm) (kk : ∀ (k P H Pk Hk : Int32) (wx wm : va_W), FX E x k P H Pk Hk wx → FM E mm k P H Pk Hk wm → LX E p l e s m below meth c b (wm ++ wx) 1148 [(3, .int (nI i)), (2, .ref mm), (1, .ref x), (0, .ref b)] []) : LX E p l e s m below meth c b (wm ++ wx) 191 [(3, .int (nI i)), (2, .ref mm), (1, .ref x), (0, .ref b)] [] := by
  have C := hS.1
  obtain ⟨ax, rfl, hWx, hJx⟩ := hx
  obtain ⟨am, cdm, rfl, hGm, hWm⟩ := hm
  obtain ⟨_, rx, v5, rfl⟩ := hWx 0 _ rfl
  obtain ⟨_, rm, hm0⟩ := hWm 0 _ rfl
  obtain ⟨_, _, _, _, _, _, _, _, _, _, _, _, _, _, _, _, _, _, _, _, _, _, _, _, _, rfl⟩ := hm0
  refine x_aload_n C dL_law_191 rfl 2 rfl rfl ?_
  refine x_aload_n C dL_law_192 rfl 3 rfl rfl ?_
  refine x_iload_n C dL_law_193 rfl 0 rfl rfl ?_
  refine x_iconst C (v := 1) dL_law_194 (by decide) rfl ?_
  refine x_iadd C (v := nI (i + 1)) dL_law_195 (nI_add i 1) rfl ?_
  refine x_sld C hS.2.1 hS.2.2.1 hS.2.2.2.1 (i + 1) (nI_clamp (by omega)) (nI_pos (by omega)) (by omega) dL_law_196 rfl ?_
  refine x_aload_n C dL_law_197 rfl 3 rfl rfl ?_
  refine x_iload_n C dL_law_198 rfl 0 rfl rfl ?_
  refine x_iconst C (v := 2) dL_law_199 (by decide) rfl ?_
  refine x_iadd C (v := nI (i + 2)) dL_law_200 (nI_add i 2) rfl ?_
  refine x_sld C hS.2.1 hS.2.2.1 hS.2.2.2.1 (i + 2) (nI_clamp (by omega)) (nI_pos (by omega)) (by omega) dL_law_201 rfl ?_
  refine x_aload_n C dL_law_202 rfl 3 rfl rfl ?_
  refine x_iload_n C dL_law_203 rfl 0 rfl rfl ?_
  refine x_iconst C (v := 3) dL_law_204 (by decide) rfl ?_
  refine x_iadd C (v := nI (i + 3)) dL_law_205 (nI_add i 3) rfl ?_
  refine x_sld C hS.2.1 hS.2.2.1 hS.2.2.2.1 (i + 3) (nI_clamp (by omega)) (nI_pos (by omega)) (by omega) dL_law_206 rfl ?_
  refine x_vk C (As := [.int (xs (i + 1)), .int (xs (i + 2)), .int (xs (i + 3))]) (rest := []) (W0 := wm) (wc := wx) (c_henJ E l ax wx hWx (xs (i + 1)) (xs (i + 2)) (xs (i + 3)) k P H Pk Hk hJx) mf_X11_hen w_458 rfl 0 rx rfl rfl rfl (Nat.le_of_ble_eq_true rfl) ⟨(Nat.le_of_ble_eq_true rfl), (Nat.le_of_ble_eq_true rfl)⟩ ⟨(Nat.le_of_ble_eq_true rfl), (Nat.le_of_ble_eq_true rfl)⟩ dL_law_207 rfl (fun r1 w1 h1 => ?_)
  refine x_aload_n C dL_law_210 rfl 1 rfl rfl ?_
  refine x_aload_n C dL_law_211 rfl 3 rfl rfl ?_
  refine x_iload_n C dL_law_212 rfl 0 rfl rfl ?_
  refine x_iconst C (v := 1) dL_law_213 (by decide) rfl ?_
  refine x_iadd C (v := nI (i + 1)) dL_law_214 (nI_add i 1) rfl ?_
  refine x_sld C hS.2.1 hS.2.2.1 hS.2.2.2.1 (i + 1) (nI_clamp (by omega)) (nI_pos (by omega)) (by omega) dL_law_215 rfl ?_
  refine x_aload_n C dL_law_216 rfl 3 rfl rfl ?_
  refine x_iload_n C dL_law_217 rfl 0 rfl rfl ?_
  refine x_iconst C (v := 2) dL_law_218 (by decide) rfl ?_
  refine x_iadd C (v := nI (i + 2)) dL_law_219 (nI_add i 2) rfl ?_
  refine x_sld C hS.2.1 hS.2.2.1 hS.2.2.2.1 (i + 2) (nI_clamp (by omega)) (nI_pos (by omega)) (by omega) dL_law_220 rfl ?_
  refine x_aload_n C dL_law_221 rfl 3 rfl rfl ?_
  refine x_iload_n C dL_law_222 rfl 0 rfl rfl ?_
  refine x_iconst C (v := 3) dL_law_223 (by decide) rfl ?_
  refine x_iadd C (v := nI (i + 3)) dL_law_224 (nI_add i 3) rfl ?_
  refine x_sld C hS.2.1 hS.2.2.1 hS.2.2.2.1 (i + 3) (nI_clamp (by omega)) (nI_pos (by omega)) (by omega) dL_law_225 rfl ?_
  refine x_swap ?_
  refine x_vk C (As := [.int (xs (i + 1)), .int (xs (i + 2)), .int (xs (i + 3))]) (rest := [.int r1]) (W0 := w1) (wc := wm) (m_henX E l am cdm hGm k none none (some (Pk, Hk)) P H wm hWm (xs (i + 1)) (xs (i + 2)) (xs (i + 3))) mf_X12_hen w_1277 rfl 0 rm rfl rfl rfl (Nat.le_of_ble_eq_true rfl) ⟨(Nat.le_of_ble_eq_true rfl), (Nat.le_of_ble_eq_true rfl)⟩ ⟨(Nat.le_of_ble_eq_true rfl), (Nat.le_of_ble_eq_true rfl)⟩ dL_law_226 rfl (fun r2 w2 h2 => ?_)
  refine x_swap ?_
  refine x_icmp_eq C (tgt := 1148) dL_law_229 (by decide) rfl (fun _ => ?_) (fun h => absurd (h1.2.2.2.trans h2.2.2.symm) h)
  exact kk k P (hT P H (xs (i + 1)) (xs (i + 2)) (xs (i + 3))) Pk Hk w1 w2 ⟨ax, rfl, h1.1, h1.2.2.1⟩ ⟨am, cdm, rfl, hGm, h2.1⟩
set_option maxRecDepth 20000 in
set_option maxHeartbeats 4000000 in
theorem law_case_2 {E : xE} {p : Program} {l : Launch} {e : Env} {s : State} {m : MethodId} {below : List Frame} {meth : Method} {c : Code} {b L : Nat} {xs : Nat → Int32} {x mm i : Nat} {k P H Pk Hk : Int32} {wx wm : va_W} (hS : LC E p s m meth c b L xs) (hB : HB E) (hL : L ≤ 3072) (hi : i + 6 ≤ L) (hx : FX E x k P H Pk Hk wx) (hm : FM E mm k P H Pk Hk wm) (kk : ∀ (k P H Pk Hk : Int32) (wx wm : va_W), FX E x k P H Pk Hk wx → FM E mm k P H Pk Hk wm → LX E p l e s m below meth c b (wm ++ wx) 1148 [(3, .int (nI i)), (2, .ref mm), (1, .ref x), (0, .ref b)] []) : LX E p l e s m below meth c b (wm ++ wx) 234 [(3, .int (nI i)), (2, .ref mm), (1, .ref x), (0, .ref b)] [] := by
  have C := hS.1
  obtain ⟨ax, rfl, hWx, hJx⟩ := hx
  obtain ⟨am, cdm, rfl, hGm, hWm⟩ := hm
  obtain ⟨_, rx, v5, rfl⟩ := hWx 0 _ rfl
  obtain ⟨_, rm, hm0⟩ := hWm 0 _ rfl
  obtain ⟨_, _, _, _, _, _, _, _, _, _, _, _, _, _, _, _, _, _, _, _, _, _, _, _, _, rfl⟩ := hm0
  refine x_aload_n C dL_law_234 rfl 2 rfl rfl ?_
  refine x_aload_n C dL_law_235 rfl 3 rfl rfl ?_
  refine x_iload_n C dL_law_236 rfl 0 rfl rfl ?_
  refine x_iconst C (v := 1) dL_law_237 (by decide) rfl ?_
  refine x_iadd C (v := nI (i + 1)) dL_law_238 (nI_add i 1) rfl ?_
  refine x_sld C hS.2.1 hS.2.2.1 hS.2.2.2.1 (i + 1) (nI_clamp (by omega)) (nI_pos (by omega)) (by omega) dL_law_239 rfl ?_
  refine x_vk C (As := [.int (xs (i + 1))]) (rest := []) (W0 := wm) (wc := wx) (c_foxJ E l ax wx hWx (xs (i + 1)) k P H Pk Hk hJx) mf_X11_fox w_470 rfl 0 rx rfl rfl rfl (Nat.le_of_ble_eq_true rfl) ⟨(Nat.le_of_ble_eq_true rfl), (Nat.le_of_ble_eq_true rfl)⟩ ⟨(Nat.le_of_ble_eq_true rfl), (Nat.le_of_ble_eq_true rfl)⟩ dL_law_240 rfl (fun r1 w1 h1 => ?_)
  refine x_pop C dL_law_243 rfl rfl ?_
  refine x_aload_n C dL_law_244 rfl 1 rfl rfl ?_
  refine x_aload_n C dL_law_245 rfl 3 rfl rfl ?_
  refine x_iload_n C dL_law_246 rfl 0 rfl rfl ?_
  refine x_iconst C (v := 1) dL_law_247 (by decide) rfl ?_
  refine x_iadd C (v := nI (i + 1)) dL_law_248 (nI_add i 1) rfl ?_
  refine x_sld C hS.2.1 hS.2.2.1 hS.2.2.2.1 (i + 1) (nI_clamp (by omega)) (nI_pos (by omega)) (by omega) dL_law_249 rfl ?_
  refine x_swap ?_
  refine x_vk C (As := [.int (xs (i + 1))]) (rest := []) (W0 := w1) (wc := wm) (m_foxX E l am cdm hGm k none none (some (Pk, Hk)) P H wm hWm (xs (i + 1))) mf_X12_fox w_1281 rfl 0 rm rfl rfl rfl (Nat.le_of_ble_eq_true rfl) ⟨(Nat.le_of_ble_eq_true rfl), (Nat.le_of_ble_eq_true rfl)⟩ ⟨(Nat.le_of_ble_eq_true rfl), (Nat.le_of_ble_eq_true rfl)⟩ dL_law_250 rfl (fun r2 w2 h2 => ?_)
  refine x_swap ?_
  refine x_pop C dL_law_253 rfl rfl ?_
  refine x_goto C (tgt := 1148) dL_law_254 (by decide) ?_
  exact kk k P (fT H (xs (i + 1))) Pk Hk w1 w2 ⟨ax, rfl, h1.1, h1.2.2.1⟩ ⟨am, cdm, rfl, hGm, h2.1⟩
set_option maxRecDepth 20000 in
set_option maxHeartbeats 4000000 in
theorem law_case_3 {E : xE} {p : Program} {l : Launch} {e : Env} {s : State} {m : MethodId} {below : List Frame} {meth : Method} {c : Code} {b L : Nat} {xs : Nat → Int32} {x mm i : Nat} {k P H Pk Hk : Int32} {wx wm : va_W} (hS : LC E p s m meth c b L xs) (hB : HB E) (hL : L ≤ 3072) (hi : i + 6 ≤ L) (hx : FX E x k P H Pk Hk wx) (hm : FM E mm k P H Pk Hk wm) (kk : ∀ (k P H Pk Hk : Int32) (wx wm : va_W), FX E x k P H Pk Hk wx → FM E mm k P H Pk Hk wm → LX E p l e s m below meth c b (wm ++ wx) 1148 [(3, .int (nI i)), (2, .ref mm), (1, .ref x), (0, .ref b)] []) : LX E p l e s m below meth c b (wm ++ wx) 257 [(3, .int (nI i)), (2, .ref mm), (1, .ref x), (0, .ref b)] [] := by
  have C := hS.1
  obtain ⟨ax, rfl, hWx, hJx⟩ := hx
  obtain ⟨am, cdm, rfl, hGm, hWm⟩ := hm
  obtain ⟨_, rx, v5, rfl⟩ := hWx 0 _ rfl
  obtain ⟨_, rm, hm0⟩ := hWm 0 _ rfl
  obtain ⟨_, _, _, _, _, _, _, _, _, _, _, _, _, _, _, _, _, _, _, _, _, _, _, _, _, rfl⟩ := hm0
  refine x_aload_n C dL_law_257 rfl 2 rfl rfl ?_
  refine x_aload_n C dL_law_258 rfl 3 rfl rfl ?_
  refine x_iload_n C dL_law_259 rfl 0 rfl rfl ?_
  refine x_iconst C (v := 1) dL_law_260 (by decide) rfl ?_
  refine x_iadd C (v := nI (i + 1)) dL_law_261 (nI_add i 1) rfl ?_
  refine x_sld C hS.2.1 hS.2.2.1 hS.2.2.2.1 (i + 1) (nI_clamp (by omega)) (nI_pos (by omega)) (by omega) dL_law_262 rfl ?_
  refine x_aload_n C dL_law_263 rfl 3 rfl rfl ?_
  refine x_iload_n C dL_law_264 rfl 0 rfl rfl ?_
  refine x_iconst C (v := 2) dL_law_265 (by decide) rfl ?_
  refine x_iadd C (v := nI (i + 2)) dL_law_266 (nI_add i 2) rfl ?_
  refine x_sld C hS.2.1 hS.2.2.1 hS.2.2.2.1 (i + 2) (nI_clamp (by omega)) (nI_pos (by omega)) (by omega) dL_law_267 rfl ?_
  refine x_aload_n C dL_law_268 rfl 3 rfl rfl ?_
  refine x_iload_n C dL_law_269 rfl 0 rfl rfl ?_
  refine x_iconst C (v := 3) dL_law_270 (by decide) rfl ?_
  refine x_iadd C (v := nI (i + 3)) dL_law_271 (nI_add i 3) rfl ?_
  refine x_sld C hS.2.1 hS.2.2.1 hS.2.2.2.1 (i + 3) (nI_clamp (by omega)) (nI_pos (by omega)) (by omega) dL_law_272 rfl ?_
  refine x_aload_n C dL_law_273 rfl 3 rfl rfl ?_
  refine x_iload_n C dL_law_274 rfl 0 rfl rfl ?_
  refine x_iconst C (v := 4) dL_law_275 (by decide) rfl ?_
  refine x_iadd C (v := nI (i + 4)) dL_law_276 (nI_add i 4) rfl ?_
  refine x_sld C hS.2.1 hS.2.2.1 hS.2.2.2.1 (i + 4) (nI_clamp (by omega)) (nI_pos (by omega)) (by omega) dL_law_277 rfl ?_
  refine x_vk C (As := [.int (xs (i + 1)), .int (xs (i + 2)), .int (xs (i + 3)), .int (xs (i + 4))]) (rest := []) (W0 := wm) (wc := wx) (c_work E l ax wx hWx (xs (i + 1)) (xs (i + 2)) (xs (i + 3)) (xs (i + 4))) mf_X11_work w_479 rfl 0 rx rfl rfl rfl (Nat.le_of_ble_eq_true rfl) ⟨(Nat.le_of_ble_eq_true rfl), (Nat.le_of_ble_eq_true rfl)⟩ ⟨(Nat.le_of_ble_eq_true rfl), (Nat.le_of_ble_eq_true rfl)⟩ dL_law_278 rfl (fun r1 w1 h1 => ?_)
  refine x_pop C dL_law_281 rfl rfl ?_
  refine x_aload_n C dL_law_282 rfl 1 rfl rfl ?_
  refine x_aload_n C dL_law_283 rfl 3 rfl rfl ?_
  refine x_iload_n C dL_law_284 rfl 0 rfl rfl ?_
  refine x_iconst C (v := 1) dL_law_285 (by decide) rfl ?_
  refine x_iadd C (v := nI (i + 1)) dL_law_286 (nI_add i 1) rfl ?_
  refine x_sld C hS.2.1 hS.2.2.1 hS.2.2.2.1 (i + 1) (nI_clamp (by omega)) (nI_pos (by omega)) (by omega) dL_law_287 rfl ?_
  refine x_aload_n C dL_law_288 rfl 3 rfl rfl ?_
  refine x_iload_n C dL_law_289 rfl 0 rfl rfl ?_
  refine x_iconst C (v := 2) dL_law_290 (by decide) rfl ?_
  refine x_iadd C (v := nI (i + 2)) dL_law_291 (nI_add i 2) rfl ?_
  refine x_sld C hS.2.1 hS.2.2.1 hS.2.2.2.1 (i + 2) (nI_clamp (by omega)) (nI_pos (by omega)) (by omega) dL_law_292 rfl ?_
  refine x_aload_n C dL_law_293 rfl 3 rfl rfl ?_
  refine x_iload_n C dL_law_294 rfl 0 rfl rfl ?_
  refine x_iconst C (v := 3) dL_law_295 (by decide) rfl ?_
  refine x_iadd C (v := nI (i + 3)) dL_law_296 (nI_add i 3) rfl ?_
  refine x_sld C hS.2.1 hS.2.2.1 hS.2.2.2.1 (i + 3) (nI_clamp (by omega)) (nI_pos (by omega)) (by omega) dL_law_297 rfl ?_
  refine x_aload_n C dL_law_298 rfl 3 rfl rfl ?_
  refine x_iload_n C dL_law_299 rfl 0 rfl rfl ?_
  refine x_iconst C (v := 4) dL_law_300 (by decide) rfl ?_
  refine x_iadd C (v := nI (i + 4)) dL_law_301 (nI_add i 4) rfl ?_
  refine x_sld C hS.2.1 hS.2.2.1 hS.2.2.2.1 (i + 4) (nI_clamp (by omega)) (nI_pos (by omega)) (by omega) dL_law_302 rfl ?_
  refine x_swap ?_
  refine x_vk C (As := [.int (xs (i + 1)), .int (xs (i + 2)), .int (xs (i + 3)), .int (xs (i + 4))]) (rest := []) (W0 := w1) (wc := wm) (m_work E l am cdm hGm k (some (P, H)) none (some (Pk, Hk)) wm hWm (xs (i + 1)) (xs (i + 2)) (xs (i + 3)) (xs (i + 4))) mf_X12_work w_1289 rfl 0 rm rfl rfl rfl (Nat.le_of_ble_eq_true rfl) ⟨(Nat.le_of_ble_eq_true rfl), (Nat.le_of_ble_eq_true rfl)⟩ ⟨(Nat.le_of_ble_eq_true rfl), (Nat.le_of_ble_eq_true rfl)⟩ dL_law_303 rfl (fun r2 w2 h2 => ?_)
  refine x_swap ?_
  refine x_pop C dL_law_306 rfl rfl ?_
  refine x_goto C (tgt := 1148) dL_law_307 (by decide) ?_
  exact kk k P H Pk Hk w1 w2 ⟨ax, rfl, h1.1, JX_keep hJx h1.2.1⟩ ⟨am, cdm, rfl, hGm, h2.1⟩
set_option maxRecDepth 20000 in
set_option maxHeartbeats 4000000 in
theorem law_case_4 {E : xE} {p : Program} {l : Launch} {e : Env} {s : State} {m : MethodId} {below : List Frame} {meth : Method} {c : Code} {b L : Nat} {xs : Nat → Int32} {x mm i : Nat} {k P H Pk Hk : Int32} {wx wm : va_W} (hS : LC E p s m meth c b L xs) (hB : HB E) (hL : L ≤ 3072) (hi : i + 6 ≤ L) (hx : FX E x k P H Pk Hk wx) (hm : FM E mm k P H Pk Hk wm) (kk : ∀ (k P H Pk Hk : Int32) (wx wm : va_W), FX E x k P H Pk Hk wx → FM E mm k P H Pk Hk wm → LX E p l e s m below meth c b (wm ++ wx) 1148 [(3, .int (nI i)), (2, .ref mm), (1, .ref x), (0, .ref b)] []) : LX E p l e s m below meth c b (wm ++ wx) 310 [(3, .int (nI i)), (2, .ref mm), (1, .ref x), (0, .ref b)] [] := by
  have C := hS.1
  obtain ⟨ax, rfl, hWx, hJx⟩ := hx
  obtain ⟨am, cdm, rfl, hGm, hWm⟩ := hm
  obtain ⟨_, rx, v5, rfl⟩ := hWx 0 _ rfl
  obtain ⟨_, rm, hm0⟩ := hWm 0 _ rfl
  obtain ⟨_, _, _, _, _, _, _, _, _, _, _, _, _, _, _, _, _, _, _, _, _, _, _, _, _, rfl⟩ := hm0
  refine x_aload_n C dL_law_310 rfl 2 rfl rfl ?_
  refine x_vk C (As := []) (rest := []) (W0 := wm) (wc := wx) (c_clean E l ax wx hWx) mf_X11_clean w_487 rfl 0 rx rfl rfl rfl (Nat.le_of_ble_eq_true rfl) ⟨(Nat.le_of_ble_eq_true rfl), (Nat.le_of_ble_eq_true rfl)⟩ ⟨(Nat.le_of_ble_eq_true rfl), (Nat.le_of_ble_eq_true rfl)⟩ dL_law_311 rfl (fun r1 w1 h1 => ?_)
  refine x_pop C dL_law_314 rfl rfl ?_
  refine x_aload_n C dL_law_315 rfl 1 rfl rfl ?_
  refine x_swap ?_
  refine x_vk C (As := []) (rest := []) (W0 := w1) (wc := wm) (m_clean E l am cdm hGm k (some (P, H)) none (some (Pk, Hk)) wm hWm) mf_X12_clean w_1293 rfl 0 rm rfl rfl rfl (Nat.le_of_ble_eq_true rfl) ⟨(Nat.le_of_ble_eq_true rfl), (Nat.le_of_ble_eq_true rfl)⟩ ⟨(Nat.le_of_ble_eq_true rfl), (Nat.le_of_ble_eq_true rfl)⟩ dL_law_316 rfl (fun r2 w2 h2 => ?_)
  refine x_swap ?_
  refine x_pop C dL_law_319 rfl rfl ?_
  refine x_goto C (tgt := 1148) dL_law_320 (by decide) ?_
  exact kk k P H Pk Hk w1 w2 ⟨ax, rfl, h1.1, JX_keep hJx h1.2⟩ ⟨am, cdm, rfl, hGm, h2⟩
set_option maxRecDepth 20000 in
set_option maxHeartbeats 4000000 in
theorem law_case_5 {E : xE} {p : Program} {l : Launch} {e : Env} {s : State} {m : MethodId} {below : List Frame} {meth : Method} {c : Code} {b L : Nat} {xs : Nat → Int32} {x mm i : Nat} {k P H Pk Hk : Int32} {wx wm : va_W} (hS : LC E p s m meth c b L xs) (hB : HB E) (hL : L ≤ 3072) (hi : i + 6 ≤ L) (hx : FX E x k P H Pk Hk wx) (hm : FM E mm k P H Pk Hk wm) (kk : ∀ (k P H Pk Hk : Int32) (wx wm : va_W), FX E x k P H Pk Hk wx → FM E mm k P H Pk Hk wm → LX E p l e s m below meth c b (wm ++ wx) 1148 [(3, .int (nI i)), (2, .ref mm), (1, .ref x), (0, .ref b)] []) : LX E p l e s m below meth c b (wm ++ wx) 323 [(3, .int (nI i)), (2, .ref mm), (1, .ref x), (0, .ref b)] [] := by
  have C := hS.1
  obtain ⟨ax, rfl, hWx, hJx⟩ := hx
  obtain ⟨am, cdm, rfl, hGm, hWm⟩ := hm
  obtain ⟨_, rx, v5, rfl⟩ := hWx 0 _ rfl
  obtain ⟨_, rm, hm0⟩ := hWm 0 _ rfl
  obtain ⟨_, _, _, _, _, _, _, _, _, _, _, _, _, _, _, _, _, _, _, _, _, _, _, _, _, rfl⟩ := hm0
  refine x_aload_n C dL_law_323 rfl 2 rfl rfl ?_
  refine x_aload_n C dL_law_324 rfl 3 rfl rfl ?_
  refine x_iload_n C dL_law_325 rfl 0 rfl rfl ?_
  refine x_iconst C (v := 1) dL_law_326 (by decide) rfl ?_
  refine x_iadd C (v := nI (i + 1)) dL_law_327 (nI_add i 1) rfl ?_
  refine x_sld C hS.2.1 hS.2.2.1 hS.2.2.2.1 (i + 1) (nI_clamp (by omega)) (nI_pos (by omega)) (by omega) dL_law_328 rfl ?_
  refine x_aload_n C dL_law_329 rfl 3 rfl rfl ?_
  refine x_iload_n C dL_law_330 rfl 0 rfl rfl ?_
  refine x_iconst C (v := 2) dL_law_331 (by decide) rfl ?_
  refine x_iadd C (v := nI (i + 2)) dL_law_332 (nI_add i 2) rfl ?_
  refine x_sld C hS.2.1 hS.2.2.1 hS.2.2.2.1 (i + 2) (nI_clamp (by omega)) (nI_pos (by omega)) (by omega) dL_law_333 rfl ?_
  refine x_aload_n C dL_law_334 rfl 3 rfl rfl ?_
  refine x_iload_n C dL_law_335 rfl 0 rfl rfl ?_
  refine x_iconst C (v := 3) dL_law_336 (by decide) rfl ?_
  refine x_iadd C (v := nI (i + 3)) dL_law_337 (nI_add i 3) rfl ?_
  refine x_sld C hS.2.1 hS.2.2.1 hS.2.2.2.1 (i + 3) (nI_clamp (by omega)) (nI_pos (by omega)) (by omega) dL_law_338 rfl ?_
  refine x_aload_n C dL_law_339 rfl 3 rfl rfl ?_
  refine x_iload_n C dL_law_340 rfl 0 rfl rfl ?_
  refine x_iconst C (v := 4) dL_law_341 (by decide) rfl ?_
  refine x_iadd C (v := nI (i + 4)) dL_law_342 (nI_add i 4) rfl ?_
  refine x_sld C hS.2.1 hS.2.2.1 hS.2.2.2.1 (i + 4) (nI_clamp (by omega)) (nI_pos (by omega)) (by omega) dL_law_343 rfl ?_
  refine x_aload_n C dL_law_344 rfl 3 rfl rfl ?_
  refine x_iload_n C dL_law_345 rfl 0 rfl rfl ?_
  refine x_iconst C (v := 5) dL_law_346 (by decide) rfl ?_
  refine x_iadd C (v := nI (i + 5)) dL_law_347 (nI_add i 5) rfl ?_
  refine x_sld C hS.2.1 hS.2.2.1 hS.2.2.2.1 (i + 5) (nI_clamp (by omega)) (nI_pos (by omega)) (by omega) dL_law_348 rfl ?_
  refine x_vk C (As := [.int (xs (i + 1)), .int (xs (i + 2)), .int (xs (i + 3)), .int (xs (i + 4)), .int (xs (i + 5))]) (rest := []) (W0 := wm) (wc := wx) (c_feed E l ax wx hWx (xs (i + 1)) (xs (i + 2)) (xs (i + 3)) (xs (i + 4)) (xs (i + 5))) mf_X11_feed w_495 rfl 0 rx rfl rfl rfl (Nat.le_of_ble_eq_true rfl) ⟨(Nat.le_of_ble_eq_true rfl), (Nat.le_of_ble_eq_true rfl)⟩ ⟨(Nat.le_of_ble_eq_true rfl), (Nat.le_of_ble_eq_true rfl)⟩ dL_law_349 rfl (fun r1 w1 h1 => ?_)
  refine x_pop C dL_law_352 rfl rfl ?_
  refine x_aload_n C dL_law_353 rfl 1 rfl rfl ?_
  refine x_aload_n C dL_law_354 rfl 3 rfl rfl ?_
  refine x_iload_n C dL_law_355 rfl 0 rfl rfl ?_
  refine x_iconst C (v := 1) dL_law_356 (by decide) rfl ?_
  refine x_iadd C (v := nI (i + 1)) dL_law_357 (nI_add i 1) rfl ?_
  refine x_sld C hS.2.1 hS.2.2.1 hS.2.2.2.1 (i + 1) (nI_clamp (by omega)) (nI_pos (by omega)) (by omega) dL_law_358 rfl ?_
  refine x_aload_n C dL_law_359 rfl 3 rfl rfl ?_
  refine x_iload_n C dL_law_360 rfl 0 rfl rfl ?_
  refine x_iconst C (v := 2) dL_law_361 (by decide) rfl ?_
  refine x_iadd C (v := nI (i + 2)) dL_law_362 (nI_add i 2) rfl ?_
  refine x_sld C hS.2.1 hS.2.2.1 hS.2.2.2.1 (i + 2) (nI_clamp (by omega)) (nI_pos (by omega)) (by omega) dL_law_363 rfl ?_
  refine x_aload_n C dL_law_364 rfl 3 rfl rfl ?_
  refine x_iload_n C dL_law_365 rfl 0 rfl rfl ?_
  refine x_iconst C (v := 3) dL_law_366 (by decide) rfl ?_
  refine x_iadd C (v := nI (i + 3)) dL_law_367 (nI_add i 3) rfl ?_
  refine x_sld C hS.2.1 hS.2.2.1 hS.2.2.2.1 (i + 3) (nI_clamp (by omega)) (nI_pos (by omega)) (by omega) dL_law_368 rfl ?_
  refine x_aload_n C dL_law_369 rfl 3 rfl rfl ?_
  refine x_iload_n C dL_law_370 rfl 0 rfl rfl ?_
  refine x_iconst C (v := 4) dL_law_371 (by decide) rfl ?_
  refine x_iadd C (v := nI (i + 4)) dL_law_372 (nI_add i 4) rfl ?_
  refine x_sld C hS.2.1 hS.2.2.1 hS.2.2.2.1 (i + 4) (nI_clamp (by omega)) (nI_pos (by omega)) (by omega) dL_law_373 rfl ?_
  refine x_aload_n C dL_law_374 rfl 3 rfl rfl ?_
  refine x_iload_n C dL_law_375 rfl 0 rfl rfl ?_
  refine x_iconst C (v := 5) dL_law_376 (by decide) rfl ?_
  refine x_iadd C (v := nI (i + 5)) dL_law_377 (nI_add i 5) rfl ?_
  refine x_sld C hS.2.1 hS.2.2.1 hS.2.2.2.1 (i + 5) (nI_clamp (by omega)) (nI_pos (by omega)) (by omega) dL_law_378 rfl ?_
  refine x_swap ?_
  refine x_vk C (As := [.int (xs (i + 1)), .int (xs (i + 2)), .int (xs (i + 3)), .int (xs (i + 4)), .int (xs (i + 5))]) (rest := []) (W0 := w1) (wc := wm) (m_feed E l am cdm hGm k (some (P, H)) none (some (Pk, Hk)) wm hWm (xs (i + 1)) (xs (i + 2)) (xs (i + 3)) (xs (i + 4)) (xs (i + 5))) mf_X12_feed w_1301 rfl 0 rm rfl rfl rfl (Nat.le_of_ble_eq_true rfl) ⟨(Nat.le_of_ble_eq_true rfl), (Nat.le_of_ble_eq_true rfl)⟩ ⟨(Nat.le_of_ble_eq_true rfl), (Nat.le_of_ble_eq_true rfl)⟩ dL_law_379 rfl (fun r2 w2 h2 => ?_)
  refine x_swap ?_
  refine x_pop C dL_law_382 rfl rfl ?_
  refine x_goto C (tgt := 1148) dL_law_383 (by decide) ?_
  exact kk k P H Pk Hk w1 w2 ⟨ax, rfl, h1.1, JX_keep hJx h1.2⟩ ⟨am, cdm, rfl, hGm, h2⟩
set_option maxRecDepth 20000 in
set_option maxHeartbeats 4000000 in
theorem law_case_6 {E : xE} {p : Program} {l : Launch} {e : Env} {s : State} {m : MethodId} {below : List Frame} {meth : Method} {c : Code} {b L : Nat} {xs : Nat → Int32} {x mm i : Nat} {k P H Pk Hk : Int32} {wx wm : va_W} (hS : LC E p s m meth c b L xs) (hB : HB E) (hL : L ≤ 3072) (hi : i + 6 ≤ L) (hx : FX E x k P H Pk Hk wx) (hm : FM E mm k P H Pk Hk wm) (kk : ∀ (k P H Pk Hk : Int32) (wx wm : va_W), FX E x k P H Pk Hk wx → FM E mm k P H Pk Hk wm → LX E p l e s m below meth c b (wm ++ wx) 1148 [(3, .int (nI i)), (2, .ref mm), (1, .ref x), (0, .ref b)] []) : LX E p l e s m below meth c b (wm ++ wx) 386 [(3, .int (nI i)), (2, .ref mm), (1, .ref x), (0, .ref b)] [] := by
  have C := hS.1
  obtain ⟨ax, rfl, hWx, hJx⟩ := hx
  obtain ⟨am, cdm, rfl, hGm, hWm⟩ := hm
  obtain ⟨_, rx, v5, rfl⟩ := hWx 0 _ rfl
  obtain ⟨_, rm, hm0⟩ := hWm 0 _ rfl
  obtain ⟨_, _, _, _, _, _, _, _, _, _, _, _, _, _, _, _, _, _, _, _, _, _, _, _, _, rfl⟩ := hm0
  refine x_aload_n C dL_law_386 rfl 2 rfl rfl ?_
  refine x_aload_n C dL_law_387 rfl 3 rfl rfl ?_
  refine x_iload_n C dL_law_388 rfl 0 rfl rfl ?_
  refine x_iconst C (v := 1) dL_law_389 (by decide) rfl ?_
  refine x_iadd C (v := nI (i + 1)) dL_law_390 (nI_add i 1) rfl ?_
  refine x_sld C hS.2.1 hS.2.2.1 hS.2.2.2.1 (i + 1) (nI_clamp (by omega)) (nI_pos (by omega)) (by omega) dL_law_391 rfl ?_
  refine x_vk C (As := [.int (xs (i + 1))]) (rest := []) (W0 := wm) (wc := wx) (c_law E l ax wx hWx (xs (i + 1)) k P H Pk Hk hJx) mf_X11_law w_503 rfl 0 rx rfl rfl rfl (Nat.le_of_ble_eq_true rfl) ⟨(Nat.le_of_ble_eq_true rfl), (Nat.le_of_ble_eq_true rfl)⟩ ⟨(Nat.le_of_ble_eq_true rfl), (Nat.le_of_ble_eq_true rfl)⟩ dL_law_392 rfl (fun r1 w1 h1 => ?_)
  refine x_pop C dL_law_395 rfl rfl ?_
  refine x_aload_n C dL_law_396 rfl 1 rfl rfl ?_
  refine x_aload_n C dL_law_397 rfl 3 rfl rfl ?_
  refine x_iload_n C dL_law_398 rfl 0 rfl rfl ?_
  refine x_iconst C (v := 1) dL_law_399 (by decide) rfl ?_
  refine x_iadd C (v := nI (i + 1)) dL_law_400 (nI_add i 1) rfl ?_
  refine x_sld C hS.2.1 hS.2.2.1 hS.2.2.2.1 (i + 1) (nI_clamp (by omega)) (nI_pos (by omega)) (by omega) dL_law_401 rfl ?_
  refine x_swap ?_
  refine x_vk C (As := [.int (xs (i + 1))]) (rest := []) (W0 := w1) (wc := wm) (m_law E l am cdm hGm k (some (P, H)) none (some (Pk, Hk)) wm hWm (xs (i + 1))) mf_X12_law w_1309 rfl 0 rm rfl rfl rfl (Nat.le_of_ble_eq_true rfl) ⟨(Nat.le_of_ble_eq_true rfl), (Nat.le_of_ble_eq_true rfl)⟩ ⟨(Nat.le_of_ble_eq_true rfl), (Nat.le_of_ble_eq_true rfl)⟩ dL_law_402 rfl (fun r2 w2 h2 => ?_)
  refine x_swap ?_
  refine x_pop C dL_law_405 rfl rfl ?_
  refine x_goto C (tgt := 1148) dL_law_406 (by decide) ?_
  obtain ⟨a2, e2, hW2, hJ2⟩ := h1
  obtain ⟨cd2, hG2, hM2⟩ := h2
  exact kk k P H Pk Hk w1 w2 ⟨a2, e2, hW2, hJ2⟩ ⟨am, cd2, rfl, hG2, hM2⟩
set_option maxRecDepth 20000 in
set_option maxHeartbeats 4000000 in
theorem law_case_7 {E : xE} {p : Program} {l : Launch} {e : Env} {s : State} {m : MethodId} {below : List Frame} {meth : Method} {c : Code} {b L : Nat} {xs : Nat → Int32} {x mm i : Nat} {k P H Pk Hk : Int32} {wx wm : va_W} (hS : LC E p s m meth c b L xs) (hB : HB E) (hL : L ≤ 3072) (hi : i + 6 ≤ L) (hx : FX E x k P H Pk Hk wx) (hm : FM E mm k P H Pk Hk wm) (kk : ∀ (k P H Pk Hk : Int32) (wx wm : va_W), FX E x k P H Pk Hk wx → FM E mm k P H Pk Hk wm → LX E p l e s m below meth c b (wm ++ wx) 1148 [(3, .int (nI i)), (2, .ref mm), (1, .ref x), (0, .ref b)] []) : LX E p l e s m below meth c b (wm ++ wx) 409 [(3, .int (nI i)), (2, .ref mm), (1, .ref x), (0, .ref b)] [] := by
  have C := hS.1
  obtain ⟨ax, rfl, hWx, hJx⟩ := hx
  obtain ⟨am, cdm, rfl, hGm, hWm⟩ := hm
  obtain ⟨_, rx, v5, rfl⟩ := hWx 0 _ rfl
  obtain ⟨_, rm, hm0⟩ := hWm 0 _ rfl
  obtain ⟨_, _, _, _, _, _, _, _, _, _, _, _, _, _, _, _, _, _, _, _, _, _, _, _, _, rfl⟩ := hm0
  refine x_aload_n C dL_law_409 rfl 2 rfl rfl ?_
  refine x_aload_n C dL_law_410 rfl 3 rfl rfl ?_
  refine x_iload_n C dL_law_411 rfl 0 rfl rfl ?_
  refine x_iconst C (v := 1) dL_law_412 (by decide) rfl ?_
  refine x_iadd C (v := nI (i + 1)) dL_law_413 (nI_add i 1) rfl ?_
  refine x_sld C hS.2.1 hS.2.2.1 hS.2.2.2.1 (i + 1) (nI_clamp (by omega)) (nI_pos (by omega)) (by omega) dL_law_414 rfl ?_
  refine x_vk C (As := [.int (xs (i + 1))]) (rest := []) (W0 := wm) (wc := wx) (c_acts E l ax wx hWx (xs (i + 1))) mf_X11_acts w_660 rfl 0 rx rfl rfl rfl (Nat.le_of_ble_eq_true rfl) ⟨(Nat.le_of_ble_eq_true rfl), (Nat.le_of_ble_eq_true rfl)⟩ ⟨(Nat.le_of_ble_eq_true rfl), (Nat.le_of_ble_eq_true rfl)⟩ dL_law_415 rfl (fun r1 w1 h1 => ?_)
  refine x_pop C dL_law_418 rfl rfl ?_
  refine x_aload_n C dL_law_419 rfl 1 rfl rfl ?_
  refine x_aload_n C dL_law_420 rfl 3 rfl rfl ?_
  refine x_iload_n C dL_law_421 rfl 0 rfl rfl ?_
  refine x_iconst C (v := 1) dL_law_422 (by decide) rfl ?_
  refine x_iadd C (v := nI (i + 1)) dL_law_423 (nI_add i 1) rfl ?_
  refine x_sld C hS.2.1 hS.2.2.1 hS.2.2.2.1 (i + 1) (nI_clamp (by omega)) (nI_pos (by omega)) (by omega) dL_law_424 rfl ?_
  refine x_swap ?_
  refine x_vk C (As := [.int (xs (i + 1))]) (rest := []) (W0 := w1) (wc := wm) (m_acts E l am cdm hGm k (some (P, H)) none (some (Pk, Hk)) wm hWm (xs (i + 1))) mf_X12_acts w_1395 rfl 0 rm rfl rfl rfl (Nat.le_of_ble_eq_true rfl) ⟨(Nat.le_of_ble_eq_true rfl), (Nat.le_of_ble_eq_true rfl)⟩ ⟨(Nat.le_of_ble_eq_true rfl), (Nat.le_of_ble_eq_true rfl)⟩ dL_law_425 rfl (fun r2 w2 h2 => ?_)
  refine x_swap ?_
  refine x_pop C dL_law_428 rfl rfl ?_
  refine x_goto C (tgt := 1148) dL_law_429 (by decide) ?_
  exact kk k P H Pk Hk w1 w2 ⟨ax, rfl, h1.1, JX_keep hJx h1.2⟩ ⟨am, cdm, rfl, hGm, h2⟩
set_option maxRecDepth 20000 in
set_option maxHeartbeats 4000000 in
theorem law_case_8 {E : xE} {p : Program} {l : Launch} {e : Env} {s : State} {m : MethodId} {below : List Frame} {meth : Method} {c : Code} {b L : Nat} {xs : Nat → Int32} {x mm i : Nat} {k P H Pk Hk : Int32} {wx wm : va_W} (hS : LC E p s m meth c b L xs) (hB : HB E) (hL : L ≤ 3072) (hi : i + 6 ≤ L) (hx : FX E x k P H Pk Hk wx) (hm : FM E mm k P H Pk Hk wm) (kk : ∀ (k P H Pk Hk : Int32) (wx wm : va_W), FX E x k P H Pk Hk wx → FM E mm k P H Pk Hk wm → LX E p l e s m below meth c b (wm ++ wx) 1148 [(3, .int (nI i)), (2, .ref mm), (1, .ref x), (0, .ref b)] []) : LX E p l e s m below meth c b (wm ++ wx) 432 [(3, .int (nI i)), (2, .ref mm), (1, .ref x), (0, .ref b)] [] := by
  have C := hS.1
  obtain ⟨ax, rfl, hWx, hJx⟩ := hx
  obtain ⟨am, cdm, rfl, hGm, hWm⟩ := hm
  obtain ⟨_, rx, v5, rfl⟩ := hWx 0 _ rfl
  obtain ⟨_, rm, hm0⟩ := hWm 0 _ rfl
  obtain ⟨_, _, _, _, _, _, _, _, _, _, _, _, _, _, _, _, _, _, _, _, _, _, _, _, _, rfl⟩ := hm0
  refine x_aload_n C dL_law_432 rfl 2 rfl rfl ?_
  refine x_aload_n C dL_law_433 rfl 3 rfl rfl ?_
  refine x_iload_n C dL_law_434 rfl 0 rfl rfl ?_
  refine x_iconst C (v := 1) dL_law_435 (by decide) rfl ?_
  refine x_iadd C (v := nI (i + 1)) dL_law_436 (nI_add i 1) rfl ?_
  refine x_sld C hS.2.1 hS.2.2.1 hS.2.2.2.1 (i + 1) (nI_clamp (by omega)) (nI_pos (by omega)) (by omega) dL_law_437 rfl ?_
  refine x_vk C (As := [.int (xs (i + 1))]) (rest := []) (W0 := wm) (wc := wx) (c_judged E l ax wx hWx (xs (i + 1))) mf_X11_judged w_784 rfl 0 rx rfl rfl rfl (Nat.le_of_ble_eq_true rfl) ⟨(Nat.le_of_ble_eq_true rfl), (Nat.le_of_ble_eq_true rfl)⟩ ⟨(Nat.le_of_ble_eq_true rfl), (Nat.le_of_ble_eq_true rfl)⟩ dL_law_438 rfl (fun r1 w1 h1 => ?_)
  refine x_pop C dL_law_441 rfl rfl ?_
  refine x_aload_n C dL_law_442 rfl 1 rfl rfl ?_
  refine x_aload_n C dL_law_443 rfl 3 rfl rfl ?_
  refine x_iload_n C dL_law_444 rfl 0 rfl rfl ?_
  refine x_iconst C (v := 1) dL_law_445 (by decide) rfl ?_
  refine x_iadd C (v := nI (i + 1)) dL_law_446 (nI_add i 1) rfl ?_
  refine x_sld C hS.2.1 hS.2.2.1 hS.2.2.2.1 (i + 1) (nI_clamp (by omega)) (nI_pos (by omega)) (by omega) dL_law_447 rfl ?_
  refine x_swap ?_
  refine x_vk C (As := [.int (xs (i + 1))]) (rest := []) (W0 := w1) (wc := wm) (m_judged E l am cdm hGm k (some (P, H)) none (some (Pk, Hk)) wm hWm (xs (i + 1))) mf_X12_judged w_1486 rfl 0 rm rfl rfl rfl (Nat.le_of_ble_eq_true rfl) ⟨(Nat.le_of_ble_eq_true rfl), (Nat.le_of_ble_eq_true rfl)⟩ ⟨(Nat.le_of_ble_eq_true rfl), (Nat.le_of_ble_eq_true rfl)⟩ dL_law_448 rfl (fun r2 w2 h2 => ?_)
  refine x_swap ?_
  refine x_pop C dL_law_451 rfl rfl ?_
  refine x_goto C (tgt := 1148) dL_law_452 (by decide) ?_
  exact kk k P H Pk Hk w1 w2 ⟨ax, rfl, h1.1, JX_keep hJx h1.2⟩ ⟨am, cdm, rfl, hGm, h2⟩
set_option maxRecDepth 20000 in
set_option maxHeartbeats 4000000 in
theorem law_case_9 {E : xE} {p : Program} {l : Launch} {e : Env} {s : State} {m : MethodId} {below : List Frame} {meth : Method} {c : Code} {b L : Nat} {xs : Nat → Int32} {x mm i : Nat} {k P H Pk Hk : Int32} {wx wm : va_W} (hS : LC E p s m meth c b L xs) (hB : HB E) (hL : L ≤ 3072) (hi : i + 6 ≤ L) (hx : FX E x k P H Pk Hk wx) (hm : FM E mm k P H Pk Hk wm) (kk : ∀ (k P H Pk Hk : Int32) (wx wm : va_W), FX E x k P H Pk Hk wx → FM E mm k P H Pk Hk wm → LX E p l e s m below meth c b (wm ++ wx) 1148 [(3, .int (nI i)), (2, .ref mm), (1, .ref x), (0, .ref b)] []) : LX E p l e s m below meth c b (wm ++ wx) 455 [(3, .int (nI i)), (2, .ref mm), (1, .ref x), (0, .ref b)] [] := by
  have C := hS.1
  obtain ⟨ax, rfl, hWx, hJx⟩ := hx
  obtain ⟨am, cdm, rfl, hGm, hWm⟩ := hm
  obtain ⟨_, rx, v5, rfl⟩ := hWx 0 _ rfl
  obtain ⟨_, rm, hm0⟩ := hWm 0 _ rfl
  obtain ⟨_, _, _, _, _, _, _, _, _, _, _, _, _, _, _, _, _, _, _, _, _, _, _, _, _, rfl⟩ := hm0
  refine x_aload_n C dL_law_455 rfl 2 rfl rfl ?_
  refine x_aload_n C dL_law_456 rfl 3 rfl rfl ?_
  refine x_iload_n C dL_law_457 rfl 0 rfl rfl ?_
  refine x_iconst C (v := 1) dL_law_458 (by decide) rfl ?_
  refine x_iadd C (v := nI (i + 1)) dL_law_459 (nI_add i 1) rfl ?_
  refine x_sld C hS.2.1 hS.2.2.1 hS.2.2.2.1 (i + 1) (nI_clamp (by omega)) (nI_pos (by omega)) (by omega) dL_law_460 rfl ?_
  refine x_vk C (As := [.int (xs (i + 1))]) (rest := []) (W0 := wm) (wc := wx) (c_days E l ax wx hWx (xs (i + 1))) mf_X11_days w_814 rfl 0 rx rfl rfl rfl (Nat.le_of_ble_eq_true rfl) ⟨(Nat.le_of_ble_eq_true rfl), (Nat.le_of_ble_eq_true rfl)⟩ ⟨(Nat.le_of_ble_eq_true rfl), (Nat.le_of_ble_eq_true rfl)⟩ dL_law_461 rfl (fun r1 w1 h1 => ?_)
  refine x_pop C dL_law_464 rfl rfl ?_
  refine x_aload_n C dL_law_465 rfl 1 rfl rfl ?_
  refine x_aload_n C dL_law_466 rfl 3 rfl rfl ?_
  refine x_iload_n C dL_law_467 rfl 0 rfl rfl ?_
  refine x_iconst C (v := 1) dL_law_468 (by decide) rfl ?_
  refine x_iadd C (v := nI (i + 1)) dL_law_469 (nI_add i 1) rfl ?_
  refine x_sld C hS.2.1 hS.2.2.1 hS.2.2.2.1 (i + 1) (nI_clamp (by omega)) (nI_pos (by omega)) (by omega) dL_law_470 rfl ?_
  refine x_swap ?_
  refine x_vk C (As := [.int (xs (i + 1))]) (rest := []) (W0 := w1) (wc := wm) (m_days E l am cdm hGm k (some (P, H)) none (some (Pk, Hk)) wm hWm (xs (i + 1))) mf_X12_days w_1493 rfl 0 rm rfl rfl rfl (Nat.le_of_ble_eq_true rfl) ⟨(Nat.le_of_ble_eq_true rfl), (Nat.le_of_ble_eq_true rfl)⟩ ⟨(Nat.le_of_ble_eq_true rfl), (Nat.le_of_ble_eq_true rfl)⟩ dL_law_471 rfl (fun r2 w2 h2 => ?_)
  refine x_swap ?_
  refine x_pop C dL_law_474 rfl rfl ?_
  refine x_goto C (tgt := 1148) dL_law_475 (by decide) ?_
  exact kk k P H Pk Hk w1 w2 ⟨ax, rfl, h1.1, JX_keep hJx h1.2⟩ ⟨am, cdm, rfl, hGm, h2⟩
set_option maxRecDepth 20000 in
set_option maxHeartbeats 4000000 in
theorem law_case_10 {E : xE} {p : Program} {l : Launch} {e : Env} {s : State} {m : MethodId} {below : List Frame} {meth : Method} {c : Code} {b L : Nat} {xs : Nat → Int32} {x mm i : Nat} {k P H Pk Hk : Int32} {wx wm : va_W} (hS : LC E p s m meth c b L xs) (hB : HB E) (hL : L ≤ 3072) (hi : i + 6 ≤ L) (hx : FX E x k P H Pk Hk wx) (hm : FM E mm k P H Pk Hk wm) (kk : ∀ (k P H Pk Hk : Int32) (wx wm : va_W), FX E x k P H Pk Hk wx → FM E mm k P H Pk Hk wm → LX E p l e s m below meth c b (wm ++ wx) 1148 [(3, .int (nI i)), (2, .ref mm), (1, .ref x), (0, .ref b)] []) : LX E p l e s m below meth c b (wm ++ wx) 478 [(3, .int (nI i)), (2, .ref mm), (1, .ref x), (0, .ref b)] [] := by
  have C := hS.1
  obtain ⟨ax, rfl, hWx, hJx⟩ := hx
  obtain ⟨am, cdm, rfl, hGm, hWm⟩ := hm
  obtain ⟨_, rx, v5, rfl⟩ := hWx 0 _ rfl
  obtain ⟨_, rm, hm0⟩ := hWm 0 _ rfl
  obtain ⟨_, _, _, _, _, _, _, _, _, _, _, _, _, _, _, _, _, _, _, _, _, _, _, _, _, rfl⟩ := hm0
  refine x_aload_n C dL_law_478 rfl 2 rfl rfl ?_
  refine x_aload_n C dL_law_479 rfl 3 rfl rfl ?_
  refine x_iload_n C dL_law_480 rfl 0 rfl rfl ?_
  refine x_iconst C (v := 1) dL_law_481 (by decide) rfl ?_
  refine x_iadd C (v := nI (i + 1)) dL_law_482 (nI_add i 1) rfl ?_
  refine x_sld C hS.2.1 hS.2.2.1 hS.2.2.2.1 (i + 1) (nI_clamp (by omega)) (nI_pos (by omega)) (by omega) dL_law_483 rfl ?_
  refine x_aload_n C dL_law_484 rfl 3 rfl rfl ?_
  refine x_iload_n C dL_law_485 rfl 0 rfl rfl ?_
  refine x_iconst C (v := 2) dL_law_486 (by decide) rfl ?_
  refine x_iadd C (v := nI (i + 2)) dL_law_487 (nI_add i 2) rfl ?_
  refine x_sld C hS.2.1 hS.2.2.1 hS.2.2.2.1 (i + 2) (nI_clamp (by omega)) (nI_pos (by omega)) (by omega) dL_law_488 rfl ?_
  refine x_vk C (As := [.int (xs (i + 1)), .int (xs (i + 2))]) (rest := []) (W0 := wm) (wc := wx) (c_tried E l ax wx hWx (xs (i + 1)) (xs (i + 2))) mf_X11_tried w_849 rfl 0 rx rfl rfl rfl (Nat.le_of_ble_eq_true rfl) ⟨(Nat.le_of_ble_eq_true rfl), (Nat.le_of_ble_eq_true rfl)⟩ ⟨(Nat.le_of_ble_eq_true rfl), (Nat.le_of_ble_eq_true rfl)⟩ dL_law_489 rfl (fun r1 w1 h1 => ?_)
  refine x_pop C dL_law_492 rfl rfl ?_
  refine x_aload_n C dL_law_493 rfl 1 rfl rfl ?_
  refine x_aload_n C dL_law_494 rfl 3 rfl rfl ?_
  refine x_iload_n C dL_law_495 rfl 0 rfl rfl ?_
  refine x_iconst C (v := 1) dL_law_496 (by decide) rfl ?_
  refine x_iadd C (v := nI (i + 1)) dL_law_497 (nI_add i 1) rfl ?_
  refine x_sld C hS.2.1 hS.2.2.1 hS.2.2.2.1 (i + 1) (nI_clamp (by omega)) (nI_pos (by omega)) (by omega) dL_law_498 rfl ?_
  refine x_aload_n C dL_law_499 rfl 3 rfl rfl ?_
  refine x_iload_n C dL_law_500 rfl 0 rfl rfl ?_
  refine x_iconst C (v := 2) dL_law_501 (by decide) rfl ?_
  refine x_iadd C (v := nI (i + 2)) dL_law_502 (nI_add i 2) rfl ?_
  refine x_sld C hS.2.1 hS.2.2.1 hS.2.2.2.1 (i + 2) (nI_clamp (by omega)) (nI_pos (by omega)) (by omega) dL_law_503 rfl ?_
  refine x_swap ?_
  refine x_vk C (As := [.int (xs (i + 1)), .int (xs (i + 2))]) (rest := []) (W0 := w1) (wc := wm) (m_tried E l am cdm hGm k (some (P, H)) none (some (Pk, Hk)) wm hWm (xs (i + 1)) (xs (i + 2))) mf_X12_tried w_1522 rfl 0 rm rfl rfl rfl (Nat.le_of_ble_eq_true rfl) ⟨(Nat.le_of_ble_eq_true rfl), (Nat.le_of_ble_eq_true rfl)⟩ ⟨(Nat.le_of_ble_eq_true rfl), (Nat.le_of_ble_eq_true rfl)⟩ dL_law_504 rfl (fun r2 w2 h2 => ?_)
  refine x_swap ?_
  refine x_pop C dL_law_507 rfl rfl ?_
  refine x_goto C (tgt := 1148) dL_law_508 (by decide) ?_
  exact kk k P H Pk Hk w1 w2 ⟨ax, rfl, h1.1, JX_keep hJx h1.2⟩ ⟨am, cdm, rfl, hGm, h2⟩
set_option maxRecDepth 20000 in
set_option maxHeartbeats 4000000 in
theorem law_case_11 {E : xE} {p : Program} {l : Launch} {e : Env} {s : State} {m : MethodId} {below : List Frame} {meth : Method} {c : Code} {b L : Nat} {xs : Nat → Int32} {x mm i : Nat} {k P H Pk Hk : Int32} {wx wm : va_W} (hS : LC E p s m meth c b L xs) (hB : HB E) (hL : L ≤ 3072) (hi : i + 6 ≤ L) (hx : FX E x k P H Pk Hk wx) (hm : FM E mm k P H Pk Hk wm) (kk : ∀ (k P H Pk Hk : Int32) (wx wm : va_W), FX E x k P H Pk Hk wx → FM E mm k P H Pk Hk wm → LX E p l e s m below meth c b (wm ++ wx) 1148 [(3, .int (nI i)), (2, .ref mm), (1, .ref x), (0, .ref b)] []) : LX E p l e s m below meth c b (wm ++ wx) 511 [(3, .int (nI i)), (2, .ref mm), (1, .ref x), (0, .ref b)] [] := by
  have C := hS.1
  obtain ⟨ax, rfl, hWx, hJx⟩ := hx
  obtain ⟨am, cdm, rfl, hGm, hWm⟩ := hm
  obtain ⟨_, rx, v5, rfl⟩ := hWx 0 _ rfl
  obtain ⟨_, rm, hm0⟩ := hWm 0 _ rfl
  obtain ⟨_, _, _, _, _, _, _, _, _, _, _, _, _, _, _, _, _, _, _, _, _, _, _, _, _, rfl⟩ := hm0
  refine x_aload_n C dL_law_511 rfl 2 rfl rfl ?_
  refine x_aload_n C dL_law_512 rfl 3 rfl rfl ?_
  refine x_iload_n C dL_law_513 rfl 0 rfl rfl ?_
  refine x_iconst C (v := 1) dL_law_514 (by decide) rfl ?_
  refine x_iadd C (v := nI (i + 1)) dL_law_515 (nI_add i 1) rfl ?_
  refine x_sld C hS.2.1 hS.2.2.1 hS.2.2.2.1 (i + 1) (nI_clamp (by omega)) (nI_pos (by omega)) (by omega) dL_law_516 rfl ?_
  refine x_aload_n C dL_law_517 rfl 3 rfl rfl ?_
  refine x_iload_n C dL_law_518 rfl 0 rfl rfl ?_
  refine x_iconst C (v := 2) dL_law_519 (by decide) rfl ?_
  refine x_iadd C (v := nI (i + 2)) dL_law_520 (nI_add i 2) rfl ?_
  refine x_sld C hS.2.1 hS.2.2.1 hS.2.2.2.1 (i + 2) (nI_clamp (by omega)) (nI_pos (by omega)) (by omega) dL_law_521 rfl ?_
  refine x_vk C (As := [.int (xs (i + 1)), .int (xs (i + 2))]) (rest := []) (W0 := wm) (wc := wx) (c_egg E l ax wx hWx (xs (i + 1)) (xs (i + 2)) hB) mf_X11_egg w_857 rfl 0 rx rfl rfl rfl (Nat.le_of_ble_eq_true rfl) ⟨(Nat.le_of_ble_eq_true rfl), (Nat.le_of_ble_eq_true rfl)⟩ ⟨(Nat.le_of_ble_eq_true rfl), (Nat.le_of_ble_eq_true rfl)⟩ dL_law_522 rfl (fun r1 w1 h1 => ?_)
  refine x_pop C dL_law_525 rfl rfl ?_
  refine x_aload_n C dL_law_526 rfl 1 rfl rfl ?_
  refine x_aload_n C dL_law_527 rfl 3 rfl rfl ?_
  refine x_iload_n C dL_law_528 rfl 0 rfl rfl ?_
  refine x_iconst C (v := 1) dL_law_529 (by decide) rfl ?_
  refine x_iadd C (v := nI (i + 1)) dL_law_530 (nI_add i 1) rfl ?_
  refine x_sld C hS.2.1 hS.2.2.1 hS.2.2.2.1 (i + 1) (nI_clamp (by omega)) (nI_pos (by omega)) (by omega) dL_law_531 rfl ?_
  refine x_aload_n C dL_law_532 rfl 3 rfl rfl ?_
  refine x_iload_n C dL_law_533 rfl 0 rfl rfl ?_
  refine x_iconst C (v := 2) dL_law_534 (by decide) rfl ?_
  refine x_iadd C (v := nI (i + 2)) dL_law_535 (nI_add i 2) rfl ?_
  refine x_sld C hS.2.1 hS.2.2.1 hS.2.2.2.1 (i + 2) (nI_clamp (by omega)) (nI_pos (by omega)) (by omega) dL_law_536 rfl ?_
  refine x_swap ?_
  refine x_vk C (As := [.int (xs (i + 1)), .int (xs (i + 2))]) (rest := []) (W0 := w1) (wc := wm) (m_egg E l am cdm hGm k (some (P, H)) none (some (Pk, Hk)) wm hWm (xs (i + 1)) (xs (i + 2))) mf_X12_egg w_1530 rfl 0 rm rfl rfl rfl (Nat.le_of_ble_eq_true rfl) ⟨(Nat.le_of_ble_eq_true rfl), (Nat.le_of_ble_eq_true rfl)⟩ ⟨(Nat.le_of_ble_eq_true rfl), (Nat.le_of_ble_eq_true rfl)⟩ dL_law_537 rfl (fun r2 w2 h2 => ?_)
  refine x_swap ?_
  refine x_pop C dL_law_540 rfl rfl ?_
  refine x_goto C (tgt := 1148) dL_law_541 (by decide) ?_
  exact kk k P H Pk Hk w1 w2 ⟨ax, rfl, h1.1, JX_keep hJx h1.2⟩ ⟨am, cdm, rfl, hGm, h2⟩
set_option maxRecDepth 20000 in
set_option maxHeartbeats 4000000 in
theorem law_case_12 {E : xE} {p : Program} {l : Launch} {e : Env} {s : State} {m : MethodId} {below : List Frame} {meth : Method} {c : Code} {b L : Nat} {xs : Nat → Int32} {x mm i : Nat} {k P H Pk Hk : Int32} {wx wm : va_W} (hS : LC E p s m meth c b L xs) (hB : HB E) (hL : L ≤ 3072) (hi : i + 6 ≤ L) (hx : FX E x k P H Pk Hk wx) (hm : FM E mm k P H Pk Hk wm) (kk : ∀ (k P H Pk Hk : Int32) (wx wm : va_W), FX E x k P H Pk Hk wx → FM E mm k P H Pk Hk wm → LX E p l e s m below meth c b (wm ++ wx) 1148 [(3, .int (nI i)), (2, .ref mm), (1, .ref x), (0, .ref b)] []) : LX E p l e s m below meth c b (wm ++ wx) 544 [(3, .int (nI i)), (2, .ref mm), (1, .ref x), (0, .ref b)] [] := by
  have C := hS.1
  obtain ⟨ax, rfl, hWx, hJx⟩ := hx
  obtain ⟨am, cdm, rfl, hGm, hWm⟩ := hm
  obtain ⟨_, rx, v5, rfl⟩ := hWx 0 _ rfl
  obtain ⟨_, rm, hm0⟩ := hWm 0 _ rfl
  obtain ⟨_, _, _, _, _, _, _, _, _, _, _, _, _, _, _, _, _, _, _, _, _, _, _, _, _, rfl⟩ := hm0
  refine x_aload_n C dL_law_544 rfl 2 rfl rfl ?_
  refine x_aload_n C dL_law_545 rfl 3 rfl rfl ?_
  refine x_iload_n C dL_law_546 rfl 0 rfl rfl ?_
  refine x_iconst C (v := 1) dL_law_547 (by decide) rfl ?_
  refine x_iadd C (v := nI (i + 1)) dL_law_548 (nI_add i 1) rfl ?_
  refine x_sld C hS.2.1 hS.2.2.1 hS.2.2.2.1 (i + 1) (nI_clamp (by omega)) (nI_pos (by omega)) (by omega) dL_law_549 rfl ?_
  refine x_aload_n C dL_law_550 rfl 3 rfl rfl ?_
  refine x_iload_n C dL_law_551 rfl 0 rfl rfl ?_
  refine x_iconst C (v := 2) dL_law_552 (by decide) rfl ?_
  refine x_iadd C (v := nI (i + 2)) dL_law_553 (nI_add i 2) rfl ?_
  refine x_sld C hS.2.1 hS.2.2.1 hS.2.2.2.1 (i + 2) (nI_clamp (by omega)) (nI_pos (by omega)) (by omega) dL_law_554 rfl ?_
  refine x_vk C (As := [.int (xs (i + 1)), .int (xs (i + 2))]) (rest := []) (W0 := wm) (wc := wx) (c_personIs E l ax wx hWx (xs (i + 1)) (xs (i + 2))) mf_X11_personIs w_867 rfl 0 rx rfl rfl rfl (Nat.le_of_ble_eq_true rfl) ⟨(Nat.le_of_ble_eq_true rfl), (Nat.le_of_ble_eq_true rfl)⟩ ⟨(Nat.le_of_ble_eq_true rfl), (Nat.le_of_ble_eq_true rfl)⟩ dL_law_555 rfl (fun r1 w1 h1 => ?_)
  refine x_pop C dL_law_558 rfl rfl ?_
  refine x_aload_n C dL_law_559 rfl 1 rfl rfl ?_
  refine x_aload_n C dL_law_560 rfl 3 rfl rfl ?_
  refine x_iload_n C dL_law_561 rfl 0 rfl rfl ?_
  refine x_iconst C (v := 1) dL_law_562 (by decide) rfl ?_
  refine x_iadd C (v := nI (i + 1)) dL_law_563 (nI_add i 1) rfl ?_
  refine x_sld C hS.2.1 hS.2.2.1 hS.2.2.2.1 (i + 1) (nI_clamp (by omega)) (nI_pos (by omega)) (by omega) dL_law_564 rfl ?_
  refine x_aload_n C dL_law_565 rfl 3 rfl rfl ?_
  refine x_iload_n C dL_law_566 rfl 0 rfl rfl ?_
  refine x_iconst C (v := 2) dL_law_567 (by decide) rfl ?_
  refine x_iadd C (v := nI (i + 2)) dL_law_568 (nI_add i 2) rfl ?_
  refine x_sld C hS.2.1 hS.2.2.1 hS.2.2.2.1 (i + 2) (nI_clamp (by omega)) (nI_pos (by omega)) (by omega) dL_law_569 rfl ?_
  refine x_swap ?_
  refine x_vk C (As := [.int (xs (i + 1)), .int (xs (i + 2))]) (rest := []) (W0 := w1) (wc := wm) (m_personIs E l am cdm hGm k (some (P, H)) none (some (Pk, Hk)) wm hWm (xs (i + 1)) (xs (i + 2))) mf_X12_personIs w_1539 rfl 0 rm rfl rfl rfl (Nat.le_of_ble_eq_true rfl) ⟨(Nat.le_of_ble_eq_true rfl), (Nat.le_of_ble_eq_true rfl)⟩ ⟨(Nat.le_of_ble_eq_true rfl), (Nat.le_of_ble_eq_true rfl)⟩ dL_law_570 rfl (fun r2 w2 h2 => ?_)
  refine x_swap ?_
  refine x_pop C dL_law_573 rfl rfl ?_
  refine x_goto C (tgt := 1148) dL_law_574 (by decide) ?_
  exact kk k P H Pk Hk w1 w2 ⟨ax, rfl, h1.1, JX_keep hJx h1.2⟩ ⟨am, cdm, rfl, hGm, h2⟩
set_option maxRecDepth 20000 in
set_option maxHeartbeats 4000000 in
theorem law_case_13 {E : xE} {p : Program} {l : Launch} {e : Env} {s : State} {m : MethodId} {below : List Frame} {meth : Method} {c : Code} {b L : Nat} {xs : Nat → Int32} {x mm i : Nat} {k P H Pk Hk : Int32} {wx wm : va_W} (hS : LC E p s m meth c b L xs) (hB : HB E) (hL : L ≤ 3072) (hi : i + 6 ≤ L) (hx : FX E x k P H Pk Hk wx) (hm : FM E mm k P H Pk Hk wm) (kk : ∀ (k P H Pk Hk : Int32) (wx wm : va_W), FX E x k P H Pk Hk wx → FM E mm k P H Pk Hk wm → LX E p l e s m below meth c b (wm ++ wx) 1148 [(3, .int (nI i)), (2, .ref mm), (1, .ref x), (0, .ref b)] []) : LX E p l e s m below meth c b (wm ++ wx) 577 [(3, .int (nI i)), (2, .ref mm), (1, .ref x), (0, .ref b)] [] := by
  have C := hS.1
  obtain ⟨ax, rfl, hWx, hJx⟩ := hx
  obtain ⟨am, cdm, rfl, hGm, hWm⟩ := hm
  obtain ⟨_, rx, v5, rfl⟩ := hWx 0 _ rfl
  obtain ⟨_, rm, hm0⟩ := hWm 0 _ rfl
  obtain ⟨_, _, _, _, _, _, _, _, _, _, _, _, _, _, _, _, _, _, _, _, _, _, _, _, _, rfl⟩ := hm0
  refine x_aload_n C dL_law_577 rfl 2 rfl rfl ?_
  refine x_aload_n C dL_law_578 rfl 3 rfl rfl ?_
  refine x_iload_n C dL_law_579 rfl 0 rfl rfl ?_
  refine x_iconst C (v := 1) dL_law_580 (by decide) rfl ?_
  refine x_iadd C (v := nI (i + 1)) dL_law_581 (nI_add i 1) rfl ?_
  refine x_sld C hS.2.1 hS.2.2.1 hS.2.2.2.1 (i + 1) (nI_clamp (by omega)) (nI_pos (by omega)) (by omega) dL_law_582 rfl ?_
  refine x_aload_n C dL_law_583 rfl 3 rfl rfl ?_
  refine x_iload_n C dL_law_584 rfl 0 rfl rfl ?_
  refine x_iconst C (v := 2) dL_law_585 (by decide) rfl ?_
  refine x_iadd C (v := nI (i + 2)) dL_law_586 (nI_add i 2) rfl ?_
  refine x_sld C hS.2.1 hS.2.2.1 hS.2.2.2.1 (i + 2) (nI_clamp (by omega)) (nI_pos (by omega)) (by omega) dL_law_587 rfl ?_
  refine x_vk C (As := [.int (xs (i + 1)), .int (xs (i + 2))]) (rest := []) (W0 := wm) (wc := wx) (c_workIs E l ax wx hWx (xs (i + 1)) (xs (i + 2))) mf_X11_workIs w_889 rfl 0 rx rfl rfl rfl (Nat.le_of_ble_eq_true rfl) ⟨(Nat.le_of_ble_eq_true rfl), (Nat.le_of_ble_eq_true rfl)⟩ ⟨(Nat.le_of_ble_eq_true rfl), (Nat.le_of_ble_eq_true rfl)⟩ dL_law_588 rfl (fun r1 w1 h1 => ?_)
  refine x_pop C dL_law_591 rfl rfl ?_
  refine x_aload_n C dL_law_592 rfl 1 rfl rfl ?_
  refine x_aload_n C dL_law_593 rfl 3 rfl rfl ?_
  refine x_iload_n C dL_law_594 rfl 0 rfl rfl ?_
  refine x_iconst C (v := 1) dL_law_595 (by decide) rfl ?_
  refine x_iadd C (v := nI (i + 1)) dL_law_596 (nI_add i 1) rfl ?_
  refine x_sld C hS.2.1 hS.2.2.1 hS.2.2.2.1 (i + 1) (nI_clamp (by omega)) (nI_pos (by omega)) (by omega) dL_law_597 rfl ?_
  refine x_aload_n C dL_law_598 rfl 3 rfl rfl ?_
  refine x_iload_n C dL_law_599 rfl 0 rfl rfl ?_
  refine x_iconst C (v := 2) dL_law_600 (by decide) rfl ?_
  refine x_iadd C (v := nI (i + 2)) dL_law_601 (nI_add i 2) rfl ?_
  refine x_sld C hS.2.1 hS.2.2.1 hS.2.2.2.1 (i + 2) (nI_clamp (by omega)) (nI_pos (by omega)) (by omega) dL_law_602 rfl ?_
  refine x_swap ?_
  refine x_vk C (As := [.int (xs (i + 1)), .int (xs (i + 2))]) (rest := []) (W0 := w1) (wc := wm) (m_workIs E l am cdm hGm k (some (P, H)) none (some (Pk, Hk)) wm hWm (xs (i + 1)) (xs (i + 2))) mf_X12_workIs w_1551 rfl 0 rm rfl rfl rfl (Nat.le_of_ble_eq_true rfl) ⟨(Nat.le_of_ble_eq_true rfl), (Nat.le_of_ble_eq_true rfl)⟩ ⟨(Nat.le_of_ble_eq_true rfl), (Nat.le_of_ble_eq_true rfl)⟩ dL_law_603 rfl (fun r2 w2 h2 => ?_)
  refine x_swap ?_
  refine x_pop C dL_law_606 rfl rfl ?_
  refine x_goto C (tgt := 1148) dL_law_607 (by decide) ?_
  exact kk k P H Pk Hk w1 w2 ⟨ax, rfl, h1.1, JX_keep hJx h1.2⟩ ⟨am, cdm, rfl, hGm, h2⟩
set_option maxRecDepth 20000 in
set_option maxHeartbeats 4000000 in
theorem law_case_14 {E : xE} {p : Program} {l : Launch} {e : Env} {s : State} {m : MethodId} {below : List Frame} {meth : Method} {c : Code} {b L : Nat} {xs : Nat → Int32} {x mm i : Nat} {k P H Pk Hk : Int32} {wx wm : va_W} (hS : LC E p s m meth c b L xs) (hB : HB E) (hL : L ≤ 3072) (hi : i + 6 ≤ L) (hx : FX E x k P H Pk Hk wx) (hm : FM E mm k P H Pk Hk wm) (kk : ∀ (k P H Pk Hk : Int32) (wx wm : va_W), FX E x k P H Pk Hk wx → FM E mm k P H Pk Hk wm → LX E p l e s m below meth c b (wm ++ wx) 1148 [(3, .int (nI i)), (2, .ref mm), (1, .ref x), (0, .ref b)] []) : LX E p l e s m below meth c b (wm ++ wx) 610 [(3, .int (nI i)), (2, .ref mm), (1, .ref x), (0, .ref b)] [] := by
  have C := hS.1
  obtain ⟨ax, rfl, hWx, hJx⟩ := hx
  obtain ⟨am, cdm, rfl, hGm, hWm⟩ := hm
  obtain ⟨_, rx, v5, rfl⟩ := hWx 0 _ rfl
  obtain ⟨_, rm, hm0⟩ := hWm 0 _ rfl
  obtain ⟨_, _, _, _, _, _, _, _, _, _, _, _, _, _, _, _, _, _, _, _, _, _, _, _, _, rfl⟩ := hm0
  refine x_aload_n C dL_law_610 rfl 2 rfl rfl ?_
  refine x_aload_n C dL_law_611 rfl 3 rfl rfl ?_
  refine x_iload_n C dL_law_612 rfl 0 rfl rfl ?_
  refine x_iconst C (v := 1) dL_law_613 (by decide) rfl ?_
  refine x_iadd C (v := nI (i + 1)) dL_law_614 (nI_add i 1) rfl ?_
  refine x_sld C hS.2.1 hS.2.2.1 hS.2.2.2.1 (i + 1) (nI_clamp (by omega)) (nI_pos (by omega)) (by omega) dL_law_615 rfl ?_
  refine x_aload_n C dL_law_616 rfl 3 rfl rfl ?_
  refine x_iload_n C dL_law_617 rfl 0 rfl rfl ?_
  refine x_iconst C (v := 2) dL_law_618 (by decide) rfl ?_
  refine x_iadd C (v := nI (i + 2)) dL_law_619 (nI_add i 2) rfl ?_
  refine x_sld C hS.2.1 hS.2.2.1 hS.2.2.2.1 (i + 2) (nI_clamp (by omega)) (nI_pos (by omega)) (by omega) dL_law_620 rfl ?_
  refine x_aload_n C dL_law_621 rfl 3 rfl rfl ?_
  refine x_iload_n C dL_law_622 rfl 0 rfl rfl ?_
  refine x_iconst C (v := 3) dL_law_623 (by decide) rfl ?_
  refine x_iadd C (v := nI (i + 3)) dL_law_624 (nI_add i 3) rfl ?_
  refine x_sld C hS.2.1 hS.2.2.1 hS.2.2.2.1 (i + 3) (nI_clamp (by omega)) (nI_pos (by omega)) (by omega) dL_law_625 rfl ?_
  refine x_vk C (As := [.int (xs (i + 1)), .int (xs (i + 2)), .int (xs (i + 3))]) (rest := []) (W0 := wm) (wc := wx) (c_plan E l ax wx hWx (xs (i + 1)) (xs (i + 2)) (xs (i + 3))) mf_X11_plan w_899 rfl 0 rx rfl rfl rfl (Nat.le_of_ble_eq_true rfl) ⟨(Nat.le_of_ble_eq_true rfl), (Nat.le_of_ble_eq_true rfl)⟩ ⟨(Nat.le_of_ble_eq_true rfl), (Nat.le_of_ble_eq_true rfl)⟩ dL_law_626 rfl (fun r1 w1 h1 => ?_)
  refine x_pop C dL_law_629 rfl rfl ?_
  refine x_aload_n C dL_law_630 rfl 1 rfl rfl ?_
  refine x_aload_n C dL_law_631 rfl 3 rfl rfl ?_
  refine x_iload_n C dL_law_632 rfl 0 rfl rfl ?_
  refine x_iconst C (v := 1) dL_law_633 (by decide) rfl ?_
  refine x_iadd C (v := nI (i + 1)) dL_law_634 (nI_add i 1) rfl ?_
  refine x_sld C hS.2.1 hS.2.2.1 hS.2.2.2.1 (i + 1) (nI_clamp (by omega)) (nI_pos (by omega)) (by omega) dL_law_635 rfl ?_
  refine x_aload_n C dL_law_636 rfl 3 rfl rfl ?_
  refine x_iload_n C dL_law_637 rfl 0 rfl rfl ?_
  refine x_iconst C (v := 2) dL_law_638 (by decide) rfl ?_
  refine x_iadd C (v := nI (i + 2)) dL_law_639 (nI_add i 2) rfl ?_
  refine x_sld C hS.2.1 hS.2.2.1 hS.2.2.2.1 (i + 2) (nI_clamp (by omega)) (nI_pos (by omega)) (by omega) dL_law_640 rfl ?_
  refine x_aload_n C dL_law_641 rfl 3 rfl rfl ?_
  refine x_iload_n C dL_law_642 rfl 0 rfl rfl ?_
  refine x_iconst C (v := 3) dL_law_643 (by decide) rfl ?_
  refine x_iadd C (v := nI (i + 3)) dL_law_644 (nI_add i 3) rfl ?_
  refine x_sld C hS.2.1 hS.2.2.1 hS.2.2.2.1 (i + 3) (nI_clamp (by omega)) (nI_pos (by omega)) (by omega) dL_law_645 rfl ?_
  refine x_swap ?_
  refine x_vk C (As := [.int (xs (i + 1)), .int (xs (i + 2)), .int (xs (i + 3))]) (rest := []) (W0 := w1) (wc := wm) (m_plan E l am cdm hGm k (some (P, H)) none (some (Pk, Hk)) wm hWm (xs (i + 1)) (xs (i + 2)) (xs (i + 3))) mf_X12_plan w_1555 rfl 0 rm rfl rfl rfl (Nat.le_of_ble_eq_true rfl) ⟨(Nat.le_of_ble_eq_true rfl), (Nat.le_of_ble_eq_true rfl)⟩ ⟨(Nat.le_of_ble_eq_true rfl), (Nat.le_of_ble_eq_true rfl)⟩ dL_law_646 rfl (fun r2 w2 h2 => ?_)
  refine x_swap ?_
  refine x_pop C dL_law_649 rfl rfl ?_
  refine x_goto C (tgt := 1148) dL_law_650 (by decide) ?_
  exact kk k P H Pk Hk w1 w2 ⟨ax, rfl, h1.1, JX_keep hJx h1.2⟩ ⟨am, cdm, rfl, hGm, h2⟩
set_option maxRecDepth 20000 in
set_option maxHeartbeats 4000000 in
theorem law_case_15 {E : xE} {p : Program} {l : Launch} {e : Env} {s : State} {m : MethodId} {below : List Frame} {meth : Method} {c : Code} {b L : Nat} {xs : Nat → Int32} {x mm i : Nat} {k P H Pk Hk : Int32} {wx wm : va_W} (hS : LC E p s m meth c b L xs) (hB : HB E) (hL : L ≤ 3072) (hi : i + 6 ≤ L) (hx : FX E x k P H Pk Hk wx) (hm : FM E mm k P H Pk Hk wm) (kk : ∀ (k P H Pk Hk : Int32) (wx wm : va_W), FX E x k P H Pk Hk wx → FM E mm k P H Pk Hk wm → LX E p l e s m below meth c b (wm ++ wx) 1148 [(3, .int (nI i)), (2, .ref mm), (1, .ref x), (0, .ref b)] []) : LX E p l e s m below meth c b (wm ++ wx) 653 [(3, .int (nI i)), (2, .ref mm), (1, .ref x), (0, .ref b)] [] := by
  have C := hS.1
  obtain ⟨ax, rfl, hWx, hJx⟩ := hx
  obtain ⟨am, cdm, rfl, hGm, hWm⟩ := hm
  obtain ⟨_, rx, v5, rfl⟩ := hWx 0 _ rfl
  obtain ⟨_, rm, hm0⟩ := hWm 0 _ rfl
  obtain ⟨_, _, _, _, _, _, _, _, _, _, _, _, _, _, _, _, _, _, _, _, _, _, _, _, _, rfl⟩ := hm0
  refine x_aload_n C dL_law_653 rfl 2 rfl rfl ?_
  refine x_aload_n C dL_law_654 rfl 3 rfl rfl ?_
  refine x_iload_n C dL_law_655 rfl 0 rfl rfl ?_
  refine x_iconst C (v := 1) dL_law_656 (by decide) rfl ?_
  refine x_iadd C (v := nI (i + 1)) dL_law_657 (nI_add i 1) rfl ?_
  refine x_sld C hS.2.1 hS.2.2.1 hS.2.2.2.1 (i + 1) (nI_clamp (by omega)) (nI_pos (by omega)) (by omega) dL_law_658 rfl ?_
  refine x_aload_n C dL_law_659 rfl 3 rfl rfl ?_
  refine x_iload_n C dL_law_660 rfl 0 rfl rfl ?_
  refine x_iconst C (v := 2) dL_law_661 (by decide) rfl ?_
  refine x_iadd C (v := nI (i + 2)) dL_law_662 (nI_add i 2) rfl ?_
  refine x_sld C hS.2.1 hS.2.2.1 hS.2.2.2.1 (i + 2) (nI_clamp (by omega)) (nI_pos (by omega)) (by omega) dL_law_663 rfl ?_
  refine x_aload_n C dL_law_664 rfl 3 rfl rfl ?_
  refine x_iload_n C dL_law_665 rfl 0 rfl rfl ?_
  refine x_iconst C (v := 3) dL_law_666 (by decide) rfl ?_
  refine x_iadd C (v := nI (i + 3)) dL_law_667 (nI_add i 3) rfl ?_
  refine x_sld C hS.2.1 hS.2.2.1 hS.2.2.2.1 (i + 3) (nI_clamp (by omega)) (nI_pos (by omega)) (by omega) dL_law_668 rfl ?_
  refine x_vk C (As := [.int (xs (i + 1)), .int (xs (i + 2)), .int (xs (i + 3))]) (rest := []) (W0 := wm) (wc := wx) (c_before E l ax wx hWx (xs (i + 1)) (xs (i + 2)) (xs (i + 3)) hB) mf_X11_before w_954 rfl 0 rx rfl rfl rfl (Nat.le_of_ble_eq_true rfl) ⟨(Nat.le_of_ble_eq_true rfl), (Nat.le_of_ble_eq_true rfl)⟩ ⟨(Nat.le_of_ble_eq_true rfl), (Nat.le_of_ble_eq_true rfl)⟩ dL_law_669 rfl (fun r1 w1 h1 => ?_)
  refine x_pop C dL_law_672 rfl rfl ?_
  refine x_aload_n C dL_law_673 rfl 1 rfl rfl ?_
  refine x_aload_n C dL_law_674 rfl 3 rfl rfl ?_
  refine x_iload_n C dL_law_675 rfl 0 rfl rfl ?_
  refine x_iconst C (v := 1) dL_law_676 (by decide) rfl ?_
  refine x_iadd C (v := nI (i + 1)) dL_law_677 (nI_add i 1) rfl ?_
  refine x_sld C hS.2.1 hS.2.2.1 hS.2.2.2.1 (i + 1) (nI_clamp (by omega)) (nI_pos (by omega)) (by omega) dL_law_678 rfl ?_
  refine x_aload_n C dL_law_679 rfl 3 rfl rfl ?_
  refine x_iload_n C dL_law_680 rfl 0 rfl rfl ?_
  refine x_iconst C (v := 2) dL_law_681 (by decide) rfl ?_
  refine x_iadd C (v := nI (i + 2)) dL_law_682 (nI_add i 2) rfl ?_
  refine x_sld C hS.2.1 hS.2.2.1 hS.2.2.2.1 (i + 2) (nI_clamp (by omega)) (nI_pos (by omega)) (by omega) dL_law_683 rfl ?_
  refine x_aload_n C dL_law_684 rfl 3 rfl rfl ?_
  refine x_iload_n C dL_law_685 rfl 0 rfl rfl ?_
  refine x_iconst C (v := 3) dL_law_686 (by decide) rfl ?_
  refine x_iadd C (v := nI (i + 3)) dL_law_687 (nI_add i 3) rfl ?_
  refine x_sld C hS.2.1 hS.2.2.1 hS.2.2.2.1 (i + 3) (nI_clamp (by omega)) (nI_pos (by omega)) (by omega) dL_law_688 rfl ?_
  refine x_swap ?_
  refine x_vk C (As := [.int (xs (i + 1)), .int (xs (i + 2)), .int (xs (i + 3))]) (rest := []) (W0 := w1) (wc := wm) (m_before E l am cdm hGm k (some (P, H)) none (some (Pk, Hk)) wm hWm (xs (i + 1)) (xs (i + 2)) (xs (i + 3))) mf_X12_before w_1585 rfl 0 rm rfl rfl rfl (Nat.le_of_ble_eq_true rfl) ⟨(Nat.le_of_ble_eq_true rfl), (Nat.le_of_ble_eq_true rfl)⟩ ⟨(Nat.le_of_ble_eq_true rfl), (Nat.le_of_ble_eq_true rfl)⟩ dL_law_689 rfl (fun r2 w2 h2 => ?_)
  refine x_swap ?_
  refine x_pop C dL_law_692 rfl rfl ?_
  refine x_goto C (tgt := 1148) dL_law_693 (by decide) ?_
  exact kk k P H Pk Hk w1 w2 ⟨ax, rfl, h1.1, JX_keep hJx h1.2⟩ ⟨am, cdm, rfl, hGm, h2⟩
set_option maxRecDepth 20000 in
set_option maxHeartbeats 4000000 in
theorem law_case_16 {E : xE} {p : Program} {l : Launch} {e : Env} {s : State} {m : MethodId} {below : List Frame} {meth : Method} {c : Code} {b L : Nat} {xs : Nat → Int32} {x mm i : Nat} {k P H Pk Hk : Int32} {wx wm : va_W} (hS : LC E p s m meth c b L xs) (hB : HB E) (hL : L ≤ 3072) (hi : i + 6 ≤ L) (hx : FX E x k P H Pk Hk wx) (hm : FM E mm k P H Pk Hk wm) (kk : ∀ (k P H Pk Hk : Int32) (wx wm : va_W), FX E x k P H Pk Hk wx → FM E mm k P H Pk Hk wm → LX E p l e s m below meth c b (wm ++ wx) 1148 [(3, .int (nI i)), (2, .ref mm), (1, .ref x), (0, .ref b)] []) : LX E p l e s m below meth c b (wm ++ wx) 696 [(3, .int (nI i)), (2, .ref mm), (1, .ref x), (0, .ref b)] [] := by
  have C := hS.1
  obtain ⟨ax, rfl, hWx, hJx⟩ := hx
  obtain ⟨am, cdm, rfl, hGm, hWm⟩ := hm
  obtain ⟨_, rx, v5, rfl⟩ := hWx 0 _ rfl
  obtain ⟨_, rm, hm0⟩ := hWm 0 _ rfl
  obtain ⟨_, _, _, _, _, _, _, _, _, _, _, _, _, _, _, _, _, _, _, _, _, _, _, _, _, rfl⟩ := hm0
  refine x_aload_n C dL_law_696 rfl 2 rfl rfl ?_
  refine x_aload_n C dL_law_697 rfl 3 rfl rfl ?_
  refine x_iload_n C dL_law_698 rfl 0 rfl rfl ?_
  refine x_iconst C (v := 1) dL_law_699 (by decide) rfl ?_
  refine x_iadd C (v := nI (i + 1)) dL_law_700 (nI_add i 1) rfl ?_
  refine x_sld C hS.2.1 hS.2.2.1 hS.2.2.2.1 (i + 1) (nI_clamp (by omega)) (nI_pos (by omega)) (by omega) dL_law_701 rfl ?_
  refine x_aload_n C dL_law_702 rfl 3 rfl rfl ?_
  refine x_iload_n C dL_law_703 rfl 0 rfl rfl ?_
  refine x_iconst C (v := 2) dL_law_704 (by decide) rfl ?_
  refine x_iadd C (v := nI (i + 2)) dL_law_705 (nI_add i 2) rfl ?_
  refine x_sld C hS.2.1 hS.2.2.1 hS.2.2.2.1 (i + 2) (nI_clamp (by omega)) (nI_pos (by omega)) (by omega) dL_law_706 rfl ?_
  refine x_aload_n C dL_law_707 rfl 3 rfl rfl ?_
  refine x_iload_n C dL_law_708 rfl 0 rfl rfl ?_
  refine x_iconst C (v := 3) dL_law_709 (by decide) rfl ?_
  refine x_iadd C (v := nI (i + 3)) dL_law_710 (nI_add i 3) rfl ?_
  refine x_sld C hS.2.1 hS.2.2.1 hS.2.2.2.1 (i + 3) (nI_clamp (by omega)) (nI_pos (by omega)) (by omega) dL_law_711 rfl ?_
  refine x_vk C (As := [.int (xs (i + 1)), .int (xs (i + 2)), .int (xs (i + 3))]) (rest := []) (W0 := wm) (wc := wx) (c_flock E l ax wx hWx (xs (i + 1)) (xs (i + 2)) (xs (i + 3))) mf_X11_flock w_967 rfl 0 rx rfl rfl rfl (Nat.le_of_ble_eq_true rfl) ⟨(Nat.le_of_ble_eq_true rfl), (Nat.le_of_ble_eq_true rfl)⟩ ⟨(Nat.le_of_ble_eq_true rfl), (Nat.le_of_ble_eq_true rfl)⟩ dL_law_712 rfl (fun r1 w1 h1 => ?_)
  refine x_pop C dL_law_715 rfl rfl ?_
  refine x_aload_n C dL_law_716 rfl 1 rfl rfl ?_
  refine x_aload_n C dL_law_717 rfl 3 rfl rfl ?_
  refine x_iload_n C dL_law_718 rfl 0 rfl rfl ?_
  refine x_iconst C (v := 1) dL_law_719 (by decide) rfl ?_
  refine x_iadd C (v := nI (i + 1)) dL_law_720 (nI_add i 1) rfl ?_
  refine x_sld C hS.2.1 hS.2.2.1 hS.2.2.2.1 (i + 1) (nI_clamp (by omega)) (nI_pos (by omega)) (by omega) dL_law_721 rfl ?_
  refine x_aload_n C dL_law_722 rfl 3 rfl rfl ?_
  refine x_iload_n C dL_law_723 rfl 0 rfl rfl ?_
  refine x_iconst C (v := 2) dL_law_724 (by decide) rfl ?_
  refine x_iadd C (v := nI (i + 2)) dL_law_725 (nI_add i 2) rfl ?_
  refine x_sld C hS.2.1 hS.2.2.1 hS.2.2.2.1 (i + 2) (nI_clamp (by omega)) (nI_pos (by omega)) (by omega) dL_law_726 rfl ?_
  refine x_aload_n C dL_law_727 rfl 3 rfl rfl ?_
  refine x_iload_n C dL_law_728 rfl 0 rfl rfl ?_
  refine x_iconst C (v := 3) dL_law_729 (by decide) rfl ?_
  refine x_iadd C (v := nI (i + 3)) dL_law_730 (nI_add i 3) rfl ?_
  refine x_sld C hS.2.1 hS.2.2.1 hS.2.2.2.1 (i + 3) (nI_clamp (by omega)) (nI_pos (by omega)) (by omega) dL_law_731 rfl ?_
  refine x_swap ?_
  refine x_vk C (As := [.int (xs (i + 1)), .int (xs (i + 2)), .int (xs (i + 3))]) (rest := []) (W0 := w1) (wc := wm) (m_flock E l am cdm hGm k (some (P, H)) none (some (Pk, Hk)) wm hWm (xs (i + 1)) (xs (i + 2)) (xs (i + 3))) mf_X12_flock w_1593 rfl 0 rm rfl rfl rfl (Nat.le_of_ble_eq_true rfl) ⟨(Nat.le_of_ble_eq_true rfl), (Nat.le_of_ble_eq_true rfl)⟩ ⟨(Nat.le_of_ble_eq_true rfl), (Nat.le_of_ble_eq_true rfl)⟩ dL_law_732 rfl (fun r2 w2 h2 => ?_)
  refine x_swap ?_
  refine x_pop C dL_law_735 rfl rfl ?_
  refine x_goto C (tgt := 1148) dL_law_736 (by decide) ?_
  exact kk k P H Pk Hk w1 w2 ⟨ax, rfl, h1.1, JX_keep hJx h1.2⟩ ⟨am, cdm, rfl, hGm, h2⟩
set_option maxRecDepth 20000 in
set_option maxHeartbeats 4000000 in
theorem law_case_17 {E : xE} {p : Program} {l : Launch} {e : Env} {s : State} {m : MethodId} {below : List Frame} {meth : Method} {c : Code} {b L : Nat} {xs : Nat → Int32} {x mm i : Nat} {k P H Pk Hk : Int32} {wx wm : va_W} (hS : LC E p s m meth c b L xs) (hB : HB E) (hL : L ≤ 3072) (hi : i + 6 ≤ L) (hx : FX E x k P H Pk Hk wx) (hm : FM E mm k P H Pk Hk wm) (kk : ∀ (k P H Pk Hk : Int32) (wx wm : va_W), FX E x k P H Pk Hk wx → FM E mm k P H Pk Hk wm → LX E p l e s m below meth c b (wm ++ wx) 1148 [(3, .int (nI i)), (2, .ref mm), (1, .ref x), (0, .ref b)] []) : LX E p l e s m below meth c b (wm ++ wx) 739 [(3, .int (nI i)), (2, .ref mm), (1, .ref x), (0, .ref b)] [] := by
  have C := hS.1
  obtain ⟨ax, rfl, hWx, hJx⟩ := hx
  obtain ⟨am, cdm, rfl, hGm, hWm⟩ := hm
  obtain ⟨_, rx, v5, rfl⟩ := hWx 0 _ rfl
  obtain ⟨_, rm, hm0⟩ := hWm 0 _ rfl
  obtain ⟨_, _, _, _, _, _, _, _, _, _, _, _, _, _, _, _, _, _, _, _, _, _, _, _, _, rfl⟩ := hm0
  refine x_aload_n C dL_law_739 rfl 2 rfl rfl ?_
  refine x_aload_n C dL_law_740 rfl 3 rfl rfl ?_
  refine x_iload_n C dL_law_741 rfl 0 rfl rfl ?_
  refine x_iconst C (v := 1) dL_law_742 (by decide) rfl ?_
  refine x_iadd C (v := nI (i + 1)) dL_law_743 (nI_add i 1) rfl ?_
  refine x_sld C hS.2.1 hS.2.2.1 hS.2.2.2.1 (i + 1) (nI_clamp (by omega)) (nI_pos (by omega)) (by omega) dL_law_744 rfl ?_
  refine x_aload_n C dL_law_745 rfl 3 rfl rfl ?_
  refine x_iload_n C dL_law_746 rfl 0 rfl rfl ?_
  refine x_iconst C (v := 2) dL_law_747 (by decide) rfl ?_
  refine x_iadd C (v := nI (i + 2)) dL_law_748 (nI_add i 2) rfl ?_
  refine x_sld C hS.2.1 hS.2.2.1 hS.2.2.2.1 (i + 2) (nI_clamp (by omega)) (nI_pos (by omega)) (by omega) dL_law_749 rfl ?_
  refine x_aload_n C dL_law_750 rfl 3 rfl rfl ?_
  refine x_iload_n C dL_law_751 rfl 0 rfl rfl ?_
  refine x_iconst C (v := 3) dL_law_752 (by decide) rfl ?_
  refine x_iadd C (v := nI (i + 3)) dL_law_753 (nI_add i 3) rfl ?_
  refine x_sld C hS.2.1 hS.2.2.1 hS.2.2.2.1 (i + 3) (nI_clamp (by omega)) (nI_pos (by omega)) (by omega) dL_law_754 rfl ?_
  refine x_vk C (As := [.int (xs (i + 1)), .int (xs (i + 2)), .int (xs (i + 3))]) (rest := []) (W0 := wm) (wc := wx) (c_rations E l ax wx hWx (xs (i + 1)) (xs (i + 2)) (xs (i + 3))) mf_X11_rations w_975 rfl 0 rx rfl rfl rfl (Nat.le_of_ble_eq_true rfl) ⟨(Nat.le_of_ble_eq_true rfl), (Nat.le_of_ble_eq_true rfl)⟩ ⟨(Nat.le_of_ble_eq_true rfl), (Nat.le_of_ble_eq_true rfl)⟩ dL_law_755 rfl (fun r1 w1 h1 => ?_)
  refine x_pop C dL_law_758 rfl rfl ?_
  refine x_aload_n C dL_law_759 rfl 1 rfl rfl ?_
  refine x_aload_n C dL_law_760 rfl 3 rfl rfl ?_
  refine x_iload_n C dL_law_761 rfl 0 rfl rfl ?_
  refine x_iconst C (v := 1) dL_law_762 (by decide) rfl ?_
  refine x_iadd C (v := nI (i + 1)) dL_law_763 (nI_add i 1) rfl ?_
  refine x_sld C hS.2.1 hS.2.2.1 hS.2.2.2.1 (i + 1) (nI_clamp (by omega)) (nI_pos (by omega)) (by omega) dL_law_764 rfl ?_
  refine x_aload_n C dL_law_765 rfl 3 rfl rfl ?_
  refine x_iload_n C dL_law_766 rfl 0 rfl rfl ?_
  refine x_iconst C (v := 2) dL_law_767 (by decide) rfl ?_
  refine x_iadd C (v := nI (i + 2)) dL_law_768 (nI_add i 2) rfl ?_
  refine x_sld C hS.2.1 hS.2.2.1 hS.2.2.2.1 (i + 2) (nI_clamp (by omega)) (nI_pos (by omega)) (by omega) dL_law_769 rfl ?_
  refine x_aload_n C dL_law_770 rfl 3 rfl rfl ?_
  refine x_iload_n C dL_law_771 rfl 0 rfl rfl ?_
  refine x_iconst C (v := 3) dL_law_772 (by decide) rfl ?_
  refine x_iadd C (v := nI (i + 3)) dL_law_773 (nI_add i 3) rfl ?_
  refine x_sld C hS.2.1 hS.2.2.1 hS.2.2.2.1 (i + 3) (nI_clamp (by omega)) (nI_pos (by omega)) (by omega) dL_law_774 rfl ?_
  refine x_swap ?_
  refine x_vk C (As := [.int (xs (i + 1)), .int (xs (i + 2)), .int (xs (i + 3))]) (rest := []) (W0 := w1) (wc := wm) (m_rations E l am cdm hGm k (some (P, H)) none (some (Pk, Hk)) wm hWm (xs (i + 1)) (xs (i + 2)) (xs (i + 3))) mf_X12_rations w_1601 rfl 0 rm rfl rfl rfl (Nat.le_of_ble_eq_true rfl) ⟨(Nat.le_of_ble_eq_true rfl), (Nat.le_of_ble_eq_true rfl)⟩ ⟨(Nat.le_of_ble_eq_true rfl), (Nat.le_of_ble_eq_true rfl)⟩ dL_law_775 rfl (fun r2 w2 h2 => ?_)
  refine x_swap ?_
  refine x_pop C dL_law_778 rfl rfl ?_
  refine x_goto C (tgt := 1148) dL_law_779 (by decide) ?_
  exact kk k P H Pk Hk w1 w2 ⟨ax, rfl, h1.1, JX_keep hJx h1.2⟩ ⟨am, cdm, rfl, hGm, h2⟩
set_option maxRecDepth 20000 in
set_option maxHeartbeats 4000000 in
theorem law_case_18 {E : xE} {p : Program} {l : Launch} {e : Env} {s : State} {m : MethodId} {below : List Frame} {meth : Method} {c : Code} {b L : Nat} {xs : Nat → Int32} {x mm i : Nat} {k P H Pk Hk : Int32} {wx wm : va_W} (hS : LC E p s m meth c b L xs) (hB : HB E) (hL : L ≤ 3072) (hi : i + 6 ≤ L) (hx : FX E x k P H Pk Hk wx) (hm : FM E mm k P H Pk Hk wm) (kk : ∀ (k P H Pk Hk : Int32) (wx wm : va_W), FX E x k P H Pk Hk wx → FM E mm k P H Pk Hk wm → LX E p l e s m below meth c b (wm ++ wx) 1148 [(3, .int (nI i)), (2, .ref mm), (1, .ref x), (0, .ref b)] []) : LX E p l e s m below meth c b (wm ++ wx) 782 [(3, .int (nI i)), (2, .ref mm), (1, .ref x), (0, .ref b)] [] := by
  have C := hS.1
  obtain ⟨ax, rfl, hWx, hJx⟩ := hx
  obtain ⟨am, cdm, rfl, hGm, hWm⟩ := hm
  obtain ⟨_, rx, v5, rfl⟩ := hWx 0 _ rfl
  obtain ⟨_, rm, hm0⟩ := hWm 0 _ rfl
  obtain ⟨_, _, _, _, _, _, _, _, _, _, _, _, _, _, _, _, _, _, _, _, _, _, _, _, _, rfl⟩ := hm0
  refine x_aload_n C dL_law_782 rfl 2 rfl rfl ?_
  refine x_aload_n C dL_law_783 rfl 3 rfl rfl ?_
  refine x_iload_n C dL_law_784 rfl 0 rfl rfl ?_
  refine x_iconst C (v := 1) dL_law_785 (by decide) rfl ?_
  refine x_iadd C (v := nI (i + 1)) dL_law_786 (nI_add i 1) rfl ?_
  refine x_sld C hS.2.1 hS.2.2.1 hS.2.2.2.1 (i + 1) (nI_clamp (by omega)) (nI_pos (by omega)) (by omega) dL_law_787 rfl ?_
  refine x_aload_n C dL_law_788 rfl 3 rfl rfl ?_
  refine x_iload_n C dL_law_789 rfl 0 rfl rfl ?_
  refine x_iconst C (v := 2) dL_law_790 (by decide) rfl ?_
  refine x_iadd C (v := nI (i + 2)) dL_law_791 (nI_add i 2) rfl ?_
  refine x_sld C hS.2.1 hS.2.2.1 hS.2.2.2.1 (i + 2) (nI_clamp (by omega)) (nI_pos (by omega)) (by omega) dL_law_792 rfl ?_
  refine x_vk C (As := [.int (xs (i + 1)), .int (xs (i + 2))]) (rest := []) (W0 := wm) (wc := wx) (c_hoards E l ax wx hWx (xs (i + 1)) (xs (i + 2))) mf_X11_hoards w_997 rfl 0 rx rfl rfl rfl (Nat.le_of_ble_eq_true rfl) ⟨(Nat.le_of_ble_eq_true rfl), (Nat.le_of_ble_eq_true rfl)⟩ ⟨(Nat.le_of_ble_eq_true rfl), (Nat.le_of_ble_eq_true rfl)⟩ dL_law_793 rfl (fun r1 w1 h1 => ?_)
  refine x_pop C dL_law_796 rfl rfl ?_
  refine x_aload_n C dL_law_797 rfl 1 rfl rfl ?_
  refine x_aload_n C dL_law_798 rfl 3 rfl rfl ?_
  refine x_iload_n C dL_law_799 rfl 0 rfl rfl ?_
  refine x_iconst C (v := 1) dL_law_800 (by decide) rfl ?_
  refine x_iadd C (v := nI (i + 1)) dL_law_801 (nI_add i 1) rfl ?_
  refine x_sld C hS.2.1 hS.2.2.1 hS.2.2.2.1 (i + 1) (nI_clamp (by omega)) (nI_pos (by omega)) (by omega) dL_law_802 rfl ?_
  refine x_aload_n C dL_law_803 rfl 3 rfl rfl ?_
  refine x_iload_n C dL_law_804 rfl 0 rfl rfl ?_
  refine x_iconst C (v := 2) dL_law_805 (by decide) rfl ?_
  refine x_iadd C (v := nI (i + 2)) dL_law_806 (nI_add i 2) rfl ?_
  refine x_sld C hS.2.1 hS.2.2.1 hS.2.2.2.1 (i + 2) (nI_clamp (by omega)) (nI_pos (by omega)) (by omega) dL_law_807 rfl ?_
  refine x_swap ?_
  refine x_vk C (As := [.int (xs (i + 1)), .int (xs (i + 2))]) (rest := []) (W0 := w1) (wc := wm) (m_hoards E l am cdm hGm k (some (P, H)) none (some (Pk, Hk)) wm hWm (xs (i + 1)) (xs (i + 2))) mf_X12_hoards w_1613 rfl 0 rm rfl rfl rfl (Nat.le_of_ble_eq_true rfl) ⟨(Nat.le_of_ble_eq_true rfl), (Nat.le_of_ble_eq_true rfl)⟩ ⟨(Nat.le_of_ble_eq_true rfl), (Nat.le_of_ble_eq_true rfl)⟩ dL_law_808 rfl (fun r2 w2 h2 => ?_)
  refine x_swap ?_
  refine x_pop C dL_law_811 rfl rfl ?_
  refine x_goto C (tgt := 1148) dL_law_812 (by decide) ?_
  exact kk k P H Pk Hk w1 w2 ⟨ax, rfl, h1.1, JX_keep hJx h1.2⟩ ⟨am, cdm, rfl, hGm, h2⟩
set_option maxRecDepth 20000 in
set_option maxHeartbeats 4000000 in
theorem law_case_19 {E : xE} {p : Program} {l : Launch} {e : Env} {s : State} {m : MethodId} {below : List Frame} {meth : Method} {c : Code} {b L : Nat} {xs : Nat → Int32} {x mm i : Nat} {k P H Pk Hk : Int32} {wx wm : va_W} (hS : LC E p s m meth c b L xs) (hB : HB E) (hL : L ≤ 3072) (hi : i + 6 ≤ L) (hx : FX E x k P H Pk Hk wx) (hm : FM E mm k P H Pk Hk wm) (kk : ∀ (k P H Pk Hk : Int32) (wx wm : va_W), FX E x k P H Pk Hk wx → FM E mm k P H Pk Hk wm → LX E p l e s m below meth c b (wm ++ wx) 1148 [(3, .int (nI i)), (2, .ref mm), (1, .ref x), (0, .ref b)] []) : LX E p l e s m below meth c b (wm ++ wx) 815 [(3, .int (nI i)), (2, .ref mm), (1, .ref x), (0, .ref b)] [] := by
  have C := hS.1
  obtain ⟨ax, rfl, hWx, hJx⟩ := hx
  obtain ⟨am, cdm, rfl, hGm, hWm⟩ := hm
  obtain ⟨_, rx, v5, rfl⟩ := hWx 0 _ rfl
  obtain ⟨_, rm, hm0⟩ := hWm 0 _ rfl
  obtain ⟨_, _, _, _, _, _, _, _, _, _, _, _, _, _, _, _, _, _, _, _, _, _, _, _, _, rfl⟩ := hm0
  refine x_aload_n C dL_law_815 rfl 2 rfl rfl ?_
  refine x_aload_n C dL_law_816 rfl 3 rfl rfl ?_
  refine x_iload_n C dL_law_817 rfl 0 rfl rfl ?_
  refine x_iconst C (v := 1) dL_law_818 (by decide) rfl ?_
  refine x_iadd C (v := nI (i + 1)) dL_law_819 (nI_add i 1) rfl ?_
  refine x_sld C hS.2.1 hS.2.2.1 hS.2.2.2.1 (i + 1) (nI_clamp (by omega)) (nI_pos (by omega)) (by omega) dL_law_820 rfl ?_
  refine x_aload_n C dL_law_821 rfl 3 rfl rfl ?_
  refine x_iload_n C dL_law_822 rfl 0 rfl rfl ?_
  refine x_iconst C (v := 2) dL_law_823 (by decide) rfl ?_
  refine x_iadd C (v := nI (i + 2)) dL_law_824 (nI_add i 2) rfl ?_
  refine x_sld C hS.2.1 hS.2.2.1 hS.2.2.2.1 (i + 2) (nI_clamp (by omega)) (nI_pos (by omega)) (by omega) dL_law_825 rfl ?_
  refine x_aload_n C dL_law_826 rfl 3 rfl rfl ?_
  refine x_iload_n C dL_law_827 rfl 0 rfl rfl ?_
  refine x_iconst C (v := 3) dL_law_828 (by decide) rfl ?_
  refine x_iadd C (v := nI (i + 3)) dL_law_829 (nI_add i 3) rfl ?_
  refine x_sld C hS.2.1 hS.2.2.1 hS.2.2.2.1 (i + 3) (nI_clamp (by omega)) (nI_pos (by omega)) (by omega) dL_law_830 rfl ?_
  refine x_vk C (As := [.int (xs (i + 1)), .int (xs (i + 2)), .int (xs (i + 3))]) (rest := []) (W0 := wm) (wc := wx) (c_yolks E l ax wx hWx (xs (i + 1)) (xs (i + 2)) (xs (i + 3))) mf_X11_yolks w_1014 rfl 0 rx rfl rfl rfl (Nat.le_of_ble_eq_true rfl) ⟨(Nat.le_of_ble_eq_true rfl), (Nat.le_of_ble_eq_true rfl)⟩ ⟨(Nat.le_of_ble_eq_true rfl), (Nat.le_of_ble_eq_true rfl)⟩ dL_law_831 rfl (fun r1 w1 h1 => ?_)
  refine x_pop C dL_law_834 rfl rfl ?_
  refine x_aload_n C dL_law_835 rfl 1 rfl rfl ?_
  refine x_aload_n C dL_law_836 rfl 3 rfl rfl ?_
  refine x_iload_n C dL_law_837 rfl 0 rfl rfl ?_
  refine x_iconst C (v := 1) dL_law_838 (by decide) rfl ?_
  refine x_iadd C (v := nI (i + 1)) dL_law_839 (nI_add i 1) rfl ?_
  refine x_sld C hS.2.1 hS.2.2.1 hS.2.2.2.1 (i + 1) (nI_clamp (by omega)) (nI_pos (by omega)) (by omega) dL_law_840 rfl ?_
  refine x_aload_n C dL_law_841 rfl 3 rfl rfl ?_
  refine x_iload_n C dL_law_842 rfl 0 rfl rfl ?_
  refine x_iconst C (v := 2) dL_law_843 (by decide) rfl ?_
  refine x_iadd C (v := nI (i + 2)) dL_law_844 (nI_add i 2) rfl ?_
  refine x_sld C hS.2.1 hS.2.2.1 hS.2.2.2.1 (i + 2) (nI_clamp (by omega)) (nI_pos (by omega)) (by omega) dL_law_845 rfl ?_
  refine x_aload_n C dL_law_846 rfl 3 rfl rfl ?_
  refine x_iload_n C dL_law_847 rfl 0 rfl rfl ?_
  refine x_iconst C (v := 3) dL_law_848 (by decide) rfl ?_
  refine x_iadd C (v := nI (i + 3)) dL_law_849 (nI_add i 3) rfl ?_
  refine x_sld C hS.2.1 hS.2.2.1 hS.2.2.2.1 (i + 3) (nI_clamp (by omega)) (nI_pos (by omega)) (by omega) dL_law_850 rfl ?_
  refine x_swap ?_
  refine x_vk C (As := [.int (xs (i + 1)), .int (xs (i + 2)), .int (xs (i + 3))]) (rest := []) (W0 := w1) (wc := wm) (m_yolks E l am cdm hGm k (some (P, H)) none (some (Pk, Hk)) wm hWm (xs (i + 1)) (xs (i + 2)) (xs (i + 3))) mf_X12_yolks w_1625 rfl 0 rm rfl rfl rfl (Nat.le_of_ble_eq_true rfl) ⟨(Nat.le_of_ble_eq_true rfl), (Nat.le_of_ble_eq_true rfl)⟩ ⟨(Nat.le_of_ble_eq_true rfl), (Nat.le_of_ble_eq_true rfl)⟩ dL_law_851 rfl (fun r2 w2 h2 => ?_)
  refine x_swap ?_
  refine x_pop C dL_law_854 rfl rfl ?_
  refine x_goto C (tgt := 1148) dL_law_855 (by decide) ?_
  exact kk k P H Pk Hk w1 w2 ⟨ax, rfl, h1.1, JX_keep hJx h1.2⟩ ⟨am, cdm, rfl, hGm, h2⟩
set_option maxRecDepth 20000 in
set_option maxHeartbeats 4000000 in
theorem law_case_20 {E : xE} {p : Program} {l : Launch} {e : Env} {s : State} {m : MethodId} {below : List Frame} {meth : Method} {c : Code} {b L : Nat} {xs : Nat → Int32} {x mm i : Nat} {k P H Pk Hk : Int32} {wx wm : va_W} (hS : LC E p s m meth c b L xs) (hB : HB E) (hL : L ≤ 3072) (hi : i + 6 ≤ L) (hx : FX E x k P H Pk Hk wx) (hm : FM E mm k P H Pk Hk wm) (kk : ∀ (k P H Pk Hk : Int32) (wx wm : va_W), FX E x k P H Pk Hk wx → FM E mm k P H Pk Hk wm → LX E p l e s m below meth c b (wm ++ wx) 1148 [(3, .int (nI i)), (2, .ref mm), (1, .ref x), (0, .ref b)] []) : LX E p l e s m below meth c b (wm ++ wx) 858 [(3, .int (nI i)), (2, .ref mm), (1, .ref x), (0, .ref b)] [] := by
  have C := hS.1
  obtain ⟨ax, rfl, hWx, hJx⟩ := hx
  obtain ⟨am, cdm, rfl, hGm, hWm⟩ := hm
  obtain ⟨_, rx, v5, rfl⟩ := hWx 0 _ rfl
  obtain ⟨_, rm, hm0⟩ := hWm 0 _ rfl
  obtain ⟨_, _, _, _, _, _, _, _, _, _, _, _, _, _, _, _, _, _, _, _, _, _, _, _, _, rfl⟩ := hm0
  refine x_aload_n C dL_law_858 rfl 2 rfl rfl ?_
  refine x_aload_n C dL_law_859 rfl 3 rfl rfl ?_
  refine x_iload_n C dL_law_860 rfl 0 rfl rfl ?_
  refine x_iconst C (v := 1) dL_law_861 (by decide) rfl ?_
  refine x_iadd C (v := nI (i + 1)) dL_law_862 (nI_add i 1) rfl ?_
  refine x_sld C hS.2.1 hS.2.2.1 hS.2.2.2.1 (i + 1) (nI_clamp (by omega)) (nI_pos (by omega)) (by omega) dL_law_863 rfl ?_
  refine x_vk C (As := [.int (xs (i + 1))]) (rest := []) (W0 := wm) (wc := wx) (c_thefts E l ax wx hWx (xs (i + 1))) mf_X11_thefts w_1033 rfl 0 rx rfl rfl rfl (Nat.le_of_ble_eq_true rfl) ⟨(Nat.le_of_ble_eq_true rfl), (Nat.le_of_ble_eq_true rfl)⟩ ⟨(Nat.le_of_ble_eq_true rfl), (Nat.le_of_ble_eq_true rfl)⟩ dL_law_864 rfl (fun r1 w1 h1 => ?_)
  refine x_pop C dL_law_867 rfl rfl ?_
  refine x_aload_n C dL_law_868 rfl 1 rfl rfl ?_
  refine x_aload_n C dL_law_869 rfl 3 rfl rfl ?_
  refine x_iload_n C dL_law_870 rfl 0 rfl rfl ?_
  refine x_iconst C (v := 1) dL_law_871 (by decide) rfl ?_
  refine x_iadd C (v := nI (i + 1)) dL_law_872 (nI_add i 1) rfl ?_
  refine x_sld C hS.2.1 hS.2.2.1 hS.2.2.2.1 (i + 1) (nI_clamp (by omega)) (nI_pos (by omega)) (by omega) dL_law_873 rfl ?_
  refine x_swap ?_
  refine x_vk C (As := [.int (xs (i + 1))]) (rest := []) (W0 := w1) (wc := wm) (m_thefts E l am cdm hGm k (some (P, H)) none (some (Pk, Hk)) wm hWm (xs (i + 1))) mf_X12_thefts w_1629 rfl 0 rm rfl rfl rfl (Nat.le_of_ble_eq_true rfl) ⟨(Nat.le_of_ble_eq_true rfl), (Nat.le_of_ble_eq_true rfl)⟩ ⟨(Nat.le_of_ble_eq_true rfl), (Nat.le_of_ble_eq_true rfl)⟩ dL_law_874 rfl (fun r2 w2 h2 => ?_)
  refine x_swap ?_
  refine x_pop C dL_law_877 rfl rfl ?_
  refine x_goto C (tgt := 1148) dL_law_878 (by decide) ?_
  exact kk k P H Pk Hk w1 w2 ⟨ax, rfl, h1.1, JX_keep hJx h1.2⟩ ⟨am, cdm, rfl, hGm, h2⟩
set_option maxRecDepth 20000 in
set_option maxHeartbeats 4000000 in
theorem law_case_21 {E : xE} {p : Program} {l : Launch} {e : Env} {s : State} {m : MethodId} {below : List Frame} {meth : Method} {c : Code} {b L : Nat} {xs : Nat → Int32} {x mm i : Nat} {k P H Pk Hk : Int32} {wx wm : va_W} (hS : LC E p s m meth c b L xs) (hB : HB E) (hL : L ≤ 3072) (hi : i + 6 ≤ L) (hx : FX E x k P H Pk Hk wx) (hm : FM E mm k P H Pk Hk wm) (kk : ∀ (k P H Pk Hk : Int32) (wx wm : va_W), FX E x k P H Pk Hk wx → FM E mm k P H Pk Hk wm → LX E p l e s m below meth c b (wm ++ wx) 1148 [(3, .int (nI i)), (2, .ref mm), (1, .ref x), (0, .ref b)] []) : LX E p l e s m below meth c b (wm ++ wx) 881 [(3, .int (nI i)), (2, .ref mm), (1, .ref x), (0, .ref b)] [] := by
  have C := hS.1
  obtain ⟨ax, rfl, hWx, hJx⟩ := hx
  obtain ⟨am, cdm, rfl, hGm, hWm⟩ := hm
  obtain ⟨_, rx, v5, rfl⟩ := hWx 0 _ rfl
  obtain ⟨_, rm, hm0⟩ := hWm 0 _ rfl
  obtain ⟨_, _, _, _, _, _, _, _, _, _, _, _, _, _, _, _, _, _, _, _, _, _, _, _, _, rfl⟩ := hm0
  refine x_aload_n C dL_law_881 rfl 2 rfl rfl ?_
  refine x_aload_n C dL_law_882 rfl 3 rfl rfl ?_
  refine x_iload_n C dL_law_883 rfl 0 rfl rfl ?_
  refine x_iconst C (v := 1) dL_law_884 (by decide) rfl ?_
  refine x_iadd C (v := nI (i + 1)) dL_law_885 (nI_add i 1) rfl ?_
  refine x_sld C hS.2.1 hS.2.2.1 hS.2.2.2.1 (i + 1) (nI_clamp (by omega)) (nI_pos (by omega)) (by omega) dL_law_886 rfl ?_
  refine x_aload_n C dL_law_887 rfl 3 rfl rfl ?_
  refine x_iload_n C dL_law_888 rfl 0 rfl rfl ?_
  refine x_iconst C (v := 2) dL_law_889 (by decide) rfl ?_
  refine x_iadd C (v := nI (i + 2)) dL_law_890 (nI_add i 2) rfl ?_
  refine x_sld C hS.2.1 hS.2.2.1 hS.2.2.2.1 (i + 2) (nI_clamp (by omega)) (nI_pos (by omega)) (by omega) dL_law_891 rfl ?_
  refine x_aload_n C dL_law_892 rfl 3 rfl rfl ?_
  refine x_iload_n C dL_law_893 rfl 0 rfl rfl ?_
  refine x_iconst C (v := 3) dL_law_894 (by decide) rfl ?_
  refine x_iadd C (v := nI (i + 3)) dL_law_895 (nI_add i 3) rfl ?_
  refine x_sld C hS.2.1 hS.2.2.1 hS.2.2.2.1 (i + 3) (nI_clamp (by omega)) (nI_pos (by omega)) (by omega) dL_law_896 rfl ?_
  refine x_vk C (As := [.int (xs (i + 1)), .int (xs (i + 2)), .int (xs (i + 3))]) (rest := []) (W0 := wm) (wc := wx) (c_baskets E l ax wx hWx (xs (i + 1)) (xs (i + 2)) (xs (i + 3))) mf_X11_baskets w_1042 rfl 0 rx rfl rfl rfl (Nat.le_of_ble_eq_true rfl) ⟨(Nat.le_of_ble_eq_true rfl), (Nat.le_of_ble_eq_true rfl)⟩ ⟨(Nat.le_of_ble_eq_true rfl), (Nat.le_of_ble_eq_true rfl)⟩ dL_law_897 rfl (fun r1 w1 h1 => ?_)
  refine x_pop C dL_law_900 rfl rfl ?_
  refine x_aload_n C dL_law_901 rfl 1 rfl rfl ?_
  refine x_aload_n C dL_law_902 rfl 3 rfl rfl ?_
  refine x_iload_n C dL_law_903 rfl 0 rfl rfl ?_
  refine x_iconst C (v := 1) dL_law_904 (by decide) rfl ?_
  refine x_iadd C (v := nI (i + 1)) dL_law_905 (nI_add i 1) rfl ?_
  refine x_sld C hS.2.1 hS.2.2.1 hS.2.2.2.1 (i + 1) (nI_clamp (by omega)) (nI_pos (by omega)) (by omega) dL_law_906 rfl ?_
  refine x_aload_n C dL_law_907 rfl 3 rfl rfl ?_
  refine x_iload_n C dL_law_908 rfl 0 rfl rfl ?_
  refine x_iconst C (v := 2) dL_law_909 (by decide) rfl ?_
  refine x_iadd C (v := nI (i + 2)) dL_law_910 (nI_add i 2) rfl ?_
  refine x_sld C hS.2.1 hS.2.2.1 hS.2.2.2.1 (i + 2) (nI_clamp (by omega)) (nI_pos (by omega)) (by omega) dL_law_911 rfl ?_
  refine x_aload_n C dL_law_912 rfl 3 rfl rfl ?_
  refine x_iload_n C dL_law_913 rfl 0 rfl rfl ?_
  refine x_iconst C (v := 3) dL_law_914 (by decide) rfl ?_
  refine x_iadd C (v := nI (i + 3)) dL_law_915 (nI_add i 3) rfl ?_
  refine x_sld C hS.2.1 hS.2.2.1 hS.2.2.2.1 (i + 3) (nI_clamp (by omega)) (nI_pos (by omega)) (by omega) dL_law_916 rfl ?_
  refine x_swap ?_
  refine x_vk C (As := [.int (xs (i + 1)), .int (xs (i + 2)), .int (xs (i + 3))]) (rest := []) (W0 := w1) (wc := wm) (m_baskets E l am cdm hGm k (some (P, H)) none (some (Pk, Hk)) wm hWm (xs (i + 1)) (xs (i + 2)) (xs (i + 3))) mf_X12_baskets w_1638 rfl 0 rm rfl rfl rfl (Nat.le_of_ble_eq_true rfl) ⟨(Nat.le_of_ble_eq_true rfl), (Nat.le_of_ble_eq_true rfl)⟩ ⟨(Nat.le_of_ble_eq_true rfl), (Nat.le_of_ble_eq_true rfl)⟩ dL_law_917 rfl (fun r2 w2 h2 => ?_)
  refine x_swap ?_
  refine x_pop C dL_law_920 rfl rfl ?_
  refine x_goto C (tgt := 1148) dL_law_921 (by decide) ?_
  exact kk k P H Pk Hk w1 w2 ⟨ax, rfl, h1.1, JX_keep hJx h1.2⟩ ⟨am, cdm, rfl, hGm, h2⟩
set_option maxRecDepth 20000 in
set_option maxHeartbeats 4000000 in
theorem law_case_22 {E : xE} {p : Program} {l : Launch} {e : Env} {s : State} {m : MethodId} {below : List Frame} {meth : Method} {c : Code} {b L : Nat} {xs : Nat → Int32} {x mm i : Nat} {k P H Pk Hk : Int32} {wx wm : va_W} (hS : LC E p s m meth c b L xs) (hB : HB E) (hL : L ≤ 3072) (hi : i + 6 ≤ L) (hx : FX E x k P H Pk Hk wx) (hm : FM E mm k P H Pk Hk wm) (kk : ∀ (k P H Pk Hk : Int32) (wx wm : va_W), FX E x k P H Pk Hk wx → FM E mm k P H Pk Hk wm → LX E p l e s m below meth c b (wm ++ wx) 1148 [(3, .int (nI i)), (2, .ref mm), (1, .ref x), (0, .ref b)] []) : LX E p l e s m below meth c b (wm ++ wx) 924 [(3, .int (nI i)), (2, .ref mm), (1, .ref x), (0, .ref b)] [] := by
  have C := hS.1
  obtain ⟨ax, rfl, hWx, hJx⟩ := hx
  obtain ⟨am, cdm, rfl, hGm, hWm⟩ := hm
  obtain ⟨_, rx, v5, rfl⟩ := hWx 0 _ rfl
  obtain ⟨_, rm, hm0⟩ := hWm 0 _ rfl
  obtain ⟨_, _, _, _, _, _, _, _, _, _, _, _, _, _, _, _, _, _, _, _, _, _, _, _, _, rfl⟩ := hm0
  refine x_aload_n C dL_law_924 rfl 2 rfl rfl ?_
  refine x_aload_n C dL_law_925 rfl 3 rfl rfl ?_
  refine x_iload_n C dL_law_926 rfl 0 rfl rfl ?_
  refine x_iconst C (v := 1) dL_law_927 (by decide) rfl ?_
  refine x_iadd C (v := nI (i + 1)) dL_law_928 (nI_add i 1) rfl ?_
  refine x_sld C hS.2.1 hS.2.2.1 hS.2.2.2.1 (i + 1) (nI_clamp (by omega)) (nI_pos (by omega)) (by omega) dL_law_929 rfl ?_
  refine x_aload_n C dL_law_930 rfl 3 rfl rfl ?_
  refine x_iload_n C dL_law_931 rfl 0 rfl rfl ?_
  refine x_iconst C (v := 2) dL_law_932 (by decide) rfl ?_
  refine x_iadd C (v := nI (i + 2)) dL_law_933 (nI_add i 2) rfl ?_
  refine x_sld C hS.2.1 hS.2.2.1 hS.2.2.2.1 (i + 2) (nI_clamp (by omega)) (nI_pos (by omega)) (by omega) dL_law_934 rfl ?_
  refine x_vk C (As := [.int (xs (i + 1)), .int (xs (i + 2))]) (rest := []) (W0 := wm) (wc := wx) (c_latest E l ax wx hWx (xs (i + 1)) (xs (i + 2))) mf_X11_latest w_1046 rfl 0 rx rfl rfl rfl (Nat.le_of_ble_eq_true rfl) ⟨(Nat.le_of_ble_eq_true rfl), (Nat.le_of_ble_eq_true rfl)⟩ ⟨(Nat.le_of_ble_eq_true rfl), (Nat.le_of_ble_eq_true rfl)⟩ dL_law_935 rfl (fun r1 w1 h1 => ?_)
  refine x_pop C dL_law_938 rfl rfl ?_
  refine x_aload_n C dL_law_939 rfl 1 rfl rfl ?_
  refine x_aload_n C dL_law_940 rfl 3 rfl rfl ?_
  refine x_iload_n C dL_law_941 rfl 0 rfl rfl ?_
  refine x_iconst C (v := 1) dL_law_942 (by decide) rfl ?_
  refine x_iadd C (v := nI (i + 1)) dL_law_943 (nI_add i 1) rfl ?_
  refine x_sld C hS.2.1 hS.2.2.1 hS.2.2.2.1 (i + 1) (nI_clamp (by omega)) (nI_pos (by omega)) (by omega) dL_law_944 rfl ?_
  refine x_aload_n C dL_law_945 rfl 3 rfl rfl ?_
  refine x_iload_n C dL_law_946 rfl 0 rfl rfl ?_
  refine x_iconst C (v := 2) dL_law_947 (by decide) rfl ?_
  refine x_iadd C (v := nI (i + 2)) dL_law_948 (nI_add i 2) rfl ?_
  refine x_sld C hS.2.1 hS.2.2.1 hS.2.2.2.1 (i + 2) (nI_clamp (by omega)) (nI_pos (by omega)) (by omega) dL_law_949 rfl ?_
  refine x_swap ?_
  refine x_vk C (As := [.int (xs (i + 1)), .int (xs (i + 2))]) (rest := []) (W0 := w1) (wc := wm) (m_latest E l am cdm hGm k (some (P, H)) none (some (Pk, Hk)) wm hWm (xs (i + 1)) (xs (i + 2))) mf_X12_latest w_1642 rfl 0 rm rfl rfl rfl (Nat.le_of_ble_eq_true rfl) ⟨(Nat.le_of_ble_eq_true rfl), (Nat.le_of_ble_eq_true rfl)⟩ ⟨(Nat.le_of_ble_eq_true rfl), (Nat.le_of_ble_eq_true rfl)⟩ dL_law_950 rfl (fun r2 w2 h2 => ?_)
  refine x_swap ?_
  refine x_pop C dL_law_953 rfl rfl ?_
  refine x_goto C (tgt := 1148) dL_law_954 (by decide) ?_
  exact kk k P H Pk Hk w1 w2 ⟨ax, rfl, h1.1, JX_keep hJx h1.2⟩ ⟨am, cdm, rfl, hGm, h2⟩
set_option maxRecDepth 20000 in
set_option maxHeartbeats 4000000 in
theorem law_case_23 {E : xE} {p : Program} {l : Launch} {e : Env} {s : State} {m : MethodId} {below : List Frame} {meth : Method} {c : Code} {b L : Nat} {xs : Nat → Int32} {x mm i : Nat} {k P H Pk Hk : Int32} {wx wm : va_W} (hS : LC E p s m meth c b L xs) (hB : HB E) (hL : L ≤ 3072) (hi : i + 6 ≤ L) (hx : FX E x k P H Pk Hk wx) (hm : FM E mm k P H Pk Hk wm) (kk : ∀ (k P H Pk Hk : Int32) (wx wm : va_W), FX E x k P H Pk Hk wx → FM E mm k P H Pk Hk wm → LX E p l e s m below meth c b (wm ++ wx) 1148 [(3, .int (nI i)), (2, .ref mm), (1, .ref x), (0, .ref b)] []) : LX E p l e s m below meth c b (wm ++ wx) 957 [(3, .int (nI i)), (2, .ref mm), (1, .ref x), (0, .ref b)] [] := by
  have C := hS.1
  obtain ⟨ax, rfl, hWx, hJx⟩ := hx
  obtain ⟨am, cdm, rfl, hGm, hWm⟩ := hm
  obtain ⟨_, rx, v5, rfl⟩ := hWx 0 _ rfl
  obtain ⟨_, rm, hm0⟩ := hWm 0 _ rfl
  obtain ⟨_, _, _, _, _, _, _, _, _, _, _, _, _, _, _, _, _, _, _, _, _, _, _, _, _, rfl⟩ := hm0
  refine x_aload_n C dL_law_957 rfl 2 rfl rfl ?_
  refine x_aload_n C dL_law_958 rfl 3 rfl rfl ?_
  refine x_iload_n C dL_law_959 rfl 0 rfl rfl ?_
  refine x_iconst C (v := 1) dL_law_960 (by decide) rfl ?_
  refine x_iadd C (v := nI (i + 1)) dL_law_961 (nI_add i 1) rfl ?_
  refine x_sld C hS.2.1 hS.2.2.1 hS.2.2.2.1 (i + 1) (nI_clamp (by omega)) (nI_pos (by omega)) (by omega) dL_law_962 rfl ?_
  refine x_aload_n C dL_law_963 rfl 3 rfl rfl ?_
  refine x_iload_n C dL_law_964 rfl 0 rfl rfl ?_
  refine x_iconst C (v := 2) dL_law_965 (by decide) rfl ?_
  refine x_iadd C (v := nI (i + 2)) dL_law_966 (nI_add i 2) rfl ?_
  refine x_sld C hS.2.1 hS.2.2.1 hS.2.2.2.1 (i + 2) (nI_clamp (by omega)) (nI_pos (by omega)) (by omega) dL_law_967 rfl ?_
  refine x_vk C (As := [.int (xs (i + 1)), .int (xs (i + 2))]) (rest := []) (W0 := wm) (wc := wx) (c_soonest E l ax wx hWx (xs (i + 1)) (xs (i + 2))) mf_X11_soonest w_1050 rfl 0 rx rfl rfl rfl (Nat.le_of_ble_eq_true rfl) ⟨(Nat.le_of_ble_eq_true rfl), (Nat.le_of_ble_eq_true rfl)⟩ ⟨(Nat.le_of_ble_eq_true rfl), (Nat.le_of_ble_eq_true rfl)⟩ dL_law_968 rfl (fun r1 w1 h1 => ?_)
  refine x_pop C dL_law_971 rfl rfl ?_
  refine x_aload_n C dL_law_972 rfl 1 rfl rfl ?_
  refine x_aload_n C dL_law_973 rfl 3 rfl rfl ?_
  refine x_iload_n C dL_law_974 rfl 0 rfl rfl ?_
  refine x_iconst C (v := 1) dL_law_975 (by decide) rfl ?_
  refine x_iadd C (v := nI (i + 1)) dL_law_976 (nI_add i 1) rfl ?_
  refine x_sld C hS.2.1 hS.2.2.1 hS.2.2.2.1 (i + 1) (nI_clamp (by omega)) (nI_pos (by omega)) (by omega) dL_law_977 rfl ?_
  refine x_aload_n C dL_law_978 rfl 3 rfl rfl ?_
  refine x_iload_n C dL_law_979 rfl 0 rfl rfl ?_
  refine x_iconst C (v := 2) dL_law_980 (by decide) rfl ?_
  refine x_iadd C (v := nI (i + 2)) dL_law_981 (nI_add i 2) rfl ?_
  refine x_sld C hS.2.1 hS.2.2.1 hS.2.2.2.1 (i + 2) (nI_clamp (by omega)) (nI_pos (by omega)) (by omega) dL_law_982 rfl ?_
  refine x_swap ?_
  refine x_vk C (As := [.int (xs (i + 1)), .int (xs (i + 2))]) (rest := []) (W0 := w1) (wc := wm) (m_soonest E l am cdm hGm k (some (P, H)) none (some (Pk, Hk)) wm hWm (xs (i + 1)) (xs (i + 2))) mf_X12_soonest w_1646 rfl 0 rm rfl rfl rfl (Nat.le_of_ble_eq_true rfl) ⟨(Nat.le_of_ble_eq_true rfl), (Nat.le_of_ble_eq_true rfl)⟩ ⟨(Nat.le_of_ble_eq_true rfl), (Nat.le_of_ble_eq_true rfl)⟩ dL_law_983 rfl (fun r2 w2 h2 => ?_)
  refine x_swap ?_
  refine x_pop C dL_law_986 rfl rfl ?_
  refine x_goto C (tgt := 1148) dL_law_987 (by decide) ?_
  exact kk k P H Pk Hk w1 w2 ⟨ax, rfl, h1.1, JX_keep hJx h1.2⟩ ⟨am, cdm, rfl, hGm, h2⟩
set_option maxRecDepth 20000 in
set_option maxHeartbeats 4000000 in
theorem law_case_24 {E : xE} {p : Program} {l : Launch} {e : Env} {s : State} {m : MethodId} {below : List Frame} {meth : Method} {c : Code} {b L : Nat} {xs : Nat → Int32} {x mm i : Nat} {k P H Pk Hk : Int32} {wx wm : va_W} (hS : LC E p s m meth c b L xs) (hB : HB E) (hL : L ≤ 3072) (hi : i + 6 ≤ L) (hx : FX E x k P H Pk Hk wx) (hm : FM E mm k P H Pk Hk wm) (kk : ∀ (k P H Pk Hk : Int32) (wx wm : va_W), FX E x k P H Pk Hk wx → FM E mm k P H Pk Hk wm → LX E p l e s m below meth c b (wm ++ wx) 1148 [(3, .int (nI i)), (2, .ref mm), (1, .ref x), (0, .ref b)] []) : LX E p l e s m below meth c b (wm ++ wx) 990 [(3, .int (nI i)), (2, .ref mm), (1, .ref x), (0, .ref b)] [] := by
  have C := hS.1
  obtain ⟨ax, rfl, hWx, hJx⟩ := hx
  obtain ⟨am, cdm, rfl, hGm, hWm⟩ := hm
  obtain ⟨_, rx, v5, rfl⟩ := hWx 0 _ rfl
  obtain ⟨_, rm, hm0⟩ := hWm 0 _ rfl
  obtain ⟨_, _, _, _, _, _, _, _, _, _, _, _, _, _, _, _, _, _, _, _, _, _, _, _, _, rfl⟩ := hm0
  refine x_aload_n C dL_law_990 rfl 2 rfl rfl ?_
  refine x_aload_n C dL_law_991 rfl 3 rfl rfl ?_
  refine x_iload_n C dL_law_992 rfl 0 rfl rfl ?_
  refine x_iconst C (v := 1) dL_law_993 (by decide) rfl ?_
  refine x_iadd C (v := nI (i + 1)) dL_law_994 (nI_add i 1) rfl ?_
  refine x_sld C hS.2.1 hS.2.2.1 hS.2.2.2.1 (i + 1) (nI_clamp (by omega)) (nI_pos (by omega)) (by omega) dL_law_995 rfl ?_
  refine x_aload_n C dL_law_996 rfl 3 rfl rfl ?_
  refine x_iload_n C dL_law_997 rfl 0 rfl rfl ?_
  refine x_iconst C (v := 2) dL_law_998 (by decide) rfl ?_
  refine x_iadd C (v := nI (i + 2)) dL_law_999 (nI_add i 2) rfl ?_
  refine x_sld C hS.2.1 hS.2.2.1 hS.2.2.2.1 (i + 2) (nI_clamp (by omega)) (nI_pos (by omega)) (by omega) dL_law_1000 rfl ?_
  refine x_aload_n C dL_law_1001 rfl 3 rfl rfl ?_
  refine x_iload_n C dL_law_1002 rfl 0 rfl rfl ?_
  refine x_iconst C (v := 3) dL_law_1003 (by decide) rfl ?_
  refine x_iadd C (v := nI (i + 3)) dL_law_1004 (nI_add i 3) rfl ?_
  refine x_sld C hS.2.1 hS.2.2.1 hS.2.2.2.1 (i + 3) (nI_clamp (by omega)) (nI_pos (by omega)) (by omega) dL_law_1005 rfl ?_
  refine x_aload_n C dL_law_1006 rfl 3 rfl rfl ?_
  refine x_iload_n C dL_law_1007 rfl 0 rfl rfl ?_
  refine x_iconst C (v := 4) dL_law_1008 (by decide) rfl ?_
  refine x_iadd C (v := nI (i + 4)) dL_law_1009 (nI_add i 4) rfl ?_
  refine x_sld C hS.2.1 hS.2.2.1 hS.2.2.2.1 (i + 4) (nI_clamp (by omega)) (nI_pos (by omega)) (by omega) dL_law_1010 rfl ?_
  refine x_aload_n C dL_law_1011 rfl 3 rfl rfl ?_
  refine x_iload_n C dL_law_1012 rfl 0 rfl rfl ?_
  refine x_iconst C (v := 5) dL_law_1013 (by decide) rfl ?_
  refine x_iadd C (v := nI (i + 5)) dL_law_1014 (nI_add i 5) rfl ?_
  refine x_sld C hS.2.1 hS.2.2.1 hS.2.2.2.1 (i + 5) (nI_clamp (by omega)) (nI_pos (by omega)) (by omega) dL_law_1015 rfl ?_
  refine x_vk C (As := [.int (xs (i + 1)), .int (xs (i + 2)), .int (xs (i + 3)), .int (xs (i + 4)), .int (xs (i + 5))]) (rest := []) (W0 := wm) (wc := wx) (c_barter E l ax wx hWx (xs (i + 1)) (xs (i + 2)) (xs (i + 3)) (xs (i + 4)) (xs (i + 5))) mf_X11_barter w_1070 rfl 0 rx rfl rfl rfl (Nat.le_of_ble_eq_true rfl) ⟨(Nat.le_of_ble_eq_true rfl), (Nat.le_of_ble_eq_true rfl)⟩ ⟨(Nat.le_of_ble_eq_true rfl), (Nat.le_of_ble_eq_true rfl)⟩ dL_law_1016 rfl (fun r1 w1 h1 => ?_)
  refine x_pop C dL_law_1019 rfl rfl ?_
  refine x_aload_n C dL_law_1020 rfl 1 rfl rfl ?_
  refine x_aload_n C dL_law_1021 rfl 3 rfl rfl ?_
  refine x_iload_n C dL_law_1022 rfl 0 rfl rfl ?_
  refine x_iconst C (v := 1) dL_law_1023 (by decide) rfl ?_
  refine x_iadd C (v := nI (i + 1)) dL_law_1024 (nI_add i 1) rfl ?_
  refine x_sld C hS.2.1 hS.2.2.1 hS.2.2.2.1 (i + 1) (nI_clamp (by omega)) (nI_pos (by omega)) (by omega) dL_law_1025 rfl ?_
  refine x_aload_n C dL_law_1026 rfl 3 rfl rfl ?_
  refine x_iload_n C dL_law_1027 rfl 0 rfl rfl ?_
  refine x_iconst C (v := 2) dL_law_1028 (by decide) rfl ?_
  refine x_iadd C (v := nI (i + 2)) dL_law_1029 (nI_add i 2) rfl ?_
  refine x_sld C hS.2.1 hS.2.2.1 hS.2.2.2.1 (i + 2) (nI_clamp (by omega)) (nI_pos (by omega)) (by omega) dL_law_1030 rfl ?_
  refine x_aload_n C dL_law_1031 rfl 3 rfl rfl ?_
  refine x_iload_n C dL_law_1032 rfl 0 rfl rfl ?_
  refine x_iconst C (v := 3) dL_law_1033 (by decide) rfl ?_
  refine x_iadd C (v := nI (i + 3)) dL_law_1034 (nI_add i 3) rfl ?_
  refine x_sld C hS.2.1 hS.2.2.1 hS.2.2.2.1 (i + 3) (nI_clamp (by omega)) (nI_pos (by omega)) (by omega) dL_law_1035 rfl ?_
  refine x_aload_n C dL_law_1036 rfl 3 rfl rfl ?_
  refine x_iload_n C dL_law_1037 rfl 0 rfl rfl ?_
  refine x_iconst C (v := 4) dL_law_1038 (by decide) rfl ?_
  refine x_iadd C (v := nI (i + 4)) dL_law_1039 (nI_add i 4) rfl ?_
  refine x_sld C hS.2.1 hS.2.2.1 hS.2.2.2.1 (i + 4) (nI_clamp (by omega)) (nI_pos (by omega)) (by omega) dL_law_1040 rfl ?_
  refine x_aload_n C dL_law_1041 rfl 3 rfl rfl ?_
  refine x_iload_n C dL_law_1042 rfl 0 rfl rfl ?_
  refine x_iconst C (v := 5) dL_law_1043 (by decide) rfl ?_
  refine x_iadd C (v := nI (i + 5)) dL_law_1044 (nI_add i 5) rfl ?_
  refine x_sld C hS.2.1 hS.2.2.1 hS.2.2.2.1 (i + 5) (nI_clamp (by omega)) (nI_pos (by omega)) (by omega) dL_law_1045 rfl ?_
  refine x_swap ?_
  refine x_vk C (As := [.int (xs (i + 1)), .int (xs (i + 2)), .int (xs (i + 3)), .int (xs (i + 4)), .int (xs (i + 5))]) (rest := []) (W0 := w1) (wc := wm) (m_barter E l am cdm hGm k (some (P, H)) none (some (Pk, Hk)) wm hWm (xs (i + 1)) (xs (i + 2)) (xs (i + 3)) (xs (i + 4)) (xs (i + 5))) mf_X12_barter w_1658 rfl 0 rm rfl rfl rfl (Nat.le_of_ble_eq_true rfl) ⟨(Nat.le_of_ble_eq_true rfl), (Nat.le_of_ble_eq_true rfl)⟩ ⟨(Nat.le_of_ble_eq_true rfl), (Nat.le_of_ble_eq_true rfl)⟩ dL_law_1046 rfl (fun r2 w2 h2 => ?_)
  refine x_swap ?_
  refine x_pop C dL_law_1049 rfl rfl ?_
  refine x_goto C (tgt := 1148) dL_law_1050 (by decide) ?_
  exact kk k P H Pk Hk w1 w2 ⟨ax, rfl, h1.1, JX_keep hJx h1.2⟩ ⟨am, cdm, rfl, hGm, h2⟩
set_option maxRecDepth 20000 in
set_option maxHeartbeats 4000000 in
theorem law_case_25 {E : xE} {p : Program} {l : Launch} {e : Env} {s : State} {m : MethodId} {below : List Frame} {meth : Method} {c : Code} {b L : Nat} {xs : Nat → Int32} {x mm i : Nat} {k P H Pk Hk : Int32} {wx wm : va_W} (hS : LC E p s m meth c b L xs) (hB : HB E) (hL : L ≤ 3072) (hi : i + 6 ≤ L) (hx : FX E x k P H Pk Hk wx) (hm : FM E mm k P H Pk Hk wm) (kk : ∀ (k P H Pk Hk : Int32) (wx wm : va_W), FX E x k P H Pk Hk wx → FM E mm k P H Pk Hk wm → LX E p l e s m below meth c b (wm ++ wx) 1148 [(3, .int (nI i)), (2, .ref mm), (1, .ref x), (0, .ref b)] []) : LX E p l e s m below meth c b (wm ++ wx) 1053 [(3, .int (nI i)), (2, .ref mm), (1, .ref x), (0, .ref b)] [] := by
  have C := hS.1
  obtain ⟨ax, rfl, hWx, hJx⟩ := hx
  obtain ⟨am, cdm, rfl, hGm, hWm⟩ := hm
  obtain ⟨_, rx, v5, rfl⟩ := hWx 0 _ rfl
  obtain ⟨_, rm, hm0⟩ := hWm 0 _ rfl
  obtain ⟨_, _, _, _, _, _, _, _, _, _, _, _, _, _, _, _, _, _, _, _, _, _, _, _, _, rfl⟩ := hm0
  refine x_aload_n C dL_law_1053 rfl 2 rfl rfl ?_
  refine x_aload_n C dL_law_1054 rfl 3 rfl rfl ?_
  refine x_iload_n C dL_law_1055 rfl 0 rfl rfl ?_
  refine x_iconst C (v := 1) dL_law_1056 (by decide) rfl ?_
  refine x_iadd C (v := nI (i + 1)) dL_law_1057 (nI_add i 1) rfl ?_
  refine x_sld C hS.2.1 hS.2.2.1 hS.2.2.2.1 (i + 1) (nI_clamp (by omega)) (nI_pos (by omega)) (by omega) dL_law_1058 rfl ?_
  refine x_vk C (As := [.int (xs (i + 1))]) (rest := []) (W0 := wm) (wc := wx) (c_seed E l ax wx hWx (xs (i + 1))) mf_X11_seed w_1081 rfl 0 rx rfl rfl rfl (Nat.le_of_ble_eq_true rfl) ⟨(Nat.le_of_ble_eq_true rfl), (Nat.le_of_ble_eq_true rfl)⟩ ⟨(Nat.le_of_ble_eq_true rfl), (Nat.le_of_ble_eq_true rfl)⟩ dL_law_1059 rfl (fun r1 w1 h1 => ?_)
  refine x_pop C dL_law_1062 rfl rfl ?_
  refine x_aload_n C dL_law_1063 rfl 1 rfl rfl ?_
  refine x_aload_n C dL_law_1064 rfl 3 rfl rfl ?_
  refine x_iload_n C dL_law_1065 rfl 0 rfl rfl ?_
  refine x_iconst C (v := 1) dL_law_1066 (by decide) rfl ?_
  refine x_iadd C (v := nI (i + 1)) dL_law_1067 (nI_add i 1) rfl ?_
  refine x_sld C hS.2.1 hS.2.2.1 hS.2.2.2.1 (i + 1) (nI_clamp (by omega)) (nI_pos (by omega)) (by omega) dL_law_1068 rfl ?_
  refine x_swap ?_
  refine x_vk C (As := [.int (xs (i + 1))]) (rest := []) (W0 := w1) (wc := wm) (m_seed E l am cdm hGm k (some (P, H)) none (some (Pk, Hk)) wm hWm (xs (i + 1))) mf_X12_seed w_1665 rfl 0 rm rfl rfl rfl (Nat.le_of_ble_eq_true rfl) ⟨(Nat.le_of_ble_eq_true rfl), (Nat.le_of_ble_eq_true rfl)⟩ ⟨(Nat.le_of_ble_eq_true rfl), (Nat.le_of_ble_eq_true rfl)⟩ dL_law_1069 rfl (fun r2 w2 h2 => ?_)
  refine x_swap ?_
  refine x_pop C dL_law_1072 rfl rfl ?_
  refine x_goto C (tgt := 1148) dL_law_1073 (by decide) ?_
  exact kk k P H Pk Hk w1 w2 ⟨ax, rfl, h1.1, JX_keep hJx h1.2.1⟩ ⟨am, cdm, rfl, hGm, h2.1⟩
set_option maxRecDepth 20000 in
set_option maxHeartbeats 4000000 in
theorem law_case_26 {E : xE} {p : Program} {l : Launch} {e : Env} {s : State} {m : MethodId} {below : List Frame} {meth : Method} {c : Code} {b L : Nat} {xs : Nat → Int32} {x mm i : Nat} {k P H Pk Hk : Int32} {wx wm : va_W} (hS : LC E p s m meth c b L xs) (hB : HB E) (hL : L ≤ 3072) (hi : i + 6 ≤ L) (hx : FX E x k P H Pk Hk wx) (hm : FM E mm k P H Pk Hk wm) (kk : ∀ (k P H Pk Hk : Int32) (wx wm : va_W), FX E x k P H Pk Hk wx → FM E mm k P H Pk Hk wm → LX E p l e s m below meth c b (wm ++ wx) 1148 [(3, .int (nI i)), (2, .ref mm), (1, .ref x), (0, .ref b)] []) : LX E p l e s m below meth c b (wm ++ wx) 1076 [(3, .int (nI i)), (2, .ref mm), (1, .ref x), (0, .ref b)] [] := by
  have C := hS.1
  obtain ⟨ax, rfl, hWx, hJx⟩ := hx
  obtain ⟨am, cdm, rfl, hGm, hWm⟩ := hm
  obtain ⟨_, rx, v5, rfl⟩ := hWx 0 _ rfl
  obtain ⟨_, rm, hm0⟩ := hWm 0 _ rfl
  obtain ⟨_, _, _, _, _, _, _, _, _, _, _, _, _, _, _, _, _, _, _, _, _, _, _, _, _, rfl⟩ := hm0
  refine x_aload_n C dL_law_1076 rfl 2 rfl rfl ?_
  refine x_vk C (As := []) (rest := []) (W0 := wm) (wc := wx) (c_keepJ E l ax wx hWx k P H Pk Hk hJx) mf_X11_keep w_1086 rfl 0 rx rfl rfl rfl (Nat.le_of_ble_eq_true rfl) ⟨(Nat.le_of_ble_eq_true rfl), (Nat.le_of_ble_eq_true rfl)⟩ ⟨(Nat.le_of_ble_eq_true rfl), (Nat.le_of_ble_eq_true rfl)⟩ dL_law_1077 rfl (fun r1 w1 h1 => ?_)
  refine x_pop C dL_law_1080 rfl rfl ?_
  refine x_aload_n C dL_law_1081 rfl 1 rfl rfl ?_
  refine x_swap ?_
  refine x_vk C (As := []) (rest := []) (W0 := w1) (wc := wm) (m_keepX E l am cdm hGm k (some (P, H)) none (some (Pk, Hk)) wm hWm) mf_X12_keep w_1670 rfl 0 rm rfl rfl rfl (Nat.le_of_ble_eq_true rfl) ⟨(Nat.le_of_ble_eq_true rfl), (Nat.le_of_ble_eq_true rfl)⟩ ⟨(Nat.le_of_ble_eq_true rfl), (Nat.le_of_ble_eq_true rfl)⟩ dL_law_1082 rfl (fun r2 w2 h2 => ?_)
  refine x_swap ?_
  refine x_pop C dL_law_1085 rfl rfl ?_
  refine x_goto C (tgt := 1148) dL_law_1086 (by decide) ?_
  exact kk 1 P H P H w1 w2 ⟨ax, rfl, h1.1, h1.2⟩ ⟨am, cdm, rfl, hGm, h2⟩
set_option maxRecDepth 20000 in
set_option maxHeartbeats 4000000 in
theorem law_case_27 {E : xE} {p : Program} {l : Launch} {e : Env} {s : State} {m : MethodId} {below : List Frame} {meth : Method} {c : Code} {b L : Nat} {xs : Nat → Int32} {x mm i : Nat} {k P H Pk Hk : Int32} {wx wm : va_W} (hS : LC E p s m meth c b L xs) (hB : HB E) (hL : L ≤ 3072) (hi : i + 6 ≤ L) (hx : FX E x k P H Pk Hk wx) (hm : FM E mm k P H Pk Hk wm) (kk : ∀ (k P H Pk Hk : Int32) (wx wm : va_W), FX E x k P H Pk Hk wx → FM E mm k P H Pk Hk wm → LX E p l e s m below meth c b (wm ++ wx) 1148 [(3, .int (nI i)), (2, .ref mm), (1, .ref x), (0, .ref b)] []) : LX E p l e s m below meth c b (wm ++ wx) 1089 [(3, .int (nI i)), (2, .ref mm), (1, .ref x), (0, .ref b)] [] := by
  have C := hS.1
  obtain ⟨ax, rfl, hWx, hJx⟩ := hx
  obtain ⟨am, cdm, rfl, hGm, hWm⟩ := hm
  obtain ⟨_, rx, v5, rfl⟩ := hWx 0 _ rfl
  obtain ⟨_, rm, hm0⟩ := hWm 0 _ rfl
  obtain ⟨_, _, _, _, _, _, _, _, _, _, _, _, _, _, _, _, _, _, _, _, _, _, _, _, _, rfl⟩ := hm0
  refine x_aload_n C dL_law_1089 rfl 2 rfl rfl ?_
  refine x_vk C (As := []) (rest := []) (W0 := wm) (wc := wx) (c_undoJ E l ax wx hWx k P H Pk Hk hJx) mf_X11_undo w_1095 rfl 0 rx rfl rfl rfl (Nat.le_of_ble_eq_true rfl) ⟨(Nat.le_of_ble_eq_true rfl), (Nat.le_of_ble_eq_true rfl)⟩ ⟨(Nat.le_of_ble_eq_true rfl), (Nat.le_of_ble_eq_true rfl)⟩ dL_law_1090 rfl (fun r1 w1 h1 => ?_)
  refine x_pop C dL_law_1093 rfl rfl ?_
  refine x_aload_n C dL_law_1094 rfl 1 rfl rfl ?_
  refine x_swap ?_
  refine x_vk C (As := []) (rest := []) (W0 := w1) (wc := wm) (m_undoX E l am cdm hGm k (some (P, H)) none (some (Pk, Hk)) wm hWm) mf_X12_undo w_1674 rfl 0 rm rfl rfl rfl (Nat.le_of_ble_eq_true rfl) ⟨(Nat.le_of_ble_eq_true rfl), (Nat.le_of_ble_eq_true rfl)⟩ ⟨(Nat.le_of_ble_eq_true rfl), (Nat.le_of_ble_eq_true rfl)⟩ dL_law_1095 rfl (fun r2 w2 h2 => ?_)
  refine x_swap ?_
  refine x_pop C dL_law_1098 rfl rfl ?_
  refine x_goto C (tgt := 1148) dL_law_1099 (by decide) ?_
  have hu := h2.1
  rw [uL_some] at hu
  exact kk k (uT k P Pk) (uT k H Hk) Pk Hk w1 w2 ⟨ax, rfl, h1.1, h1.2.2.1⟩ ⟨am, cdm, rfl, hGm, hu⟩
set_option maxRecDepth 20000 in
set_option maxHeartbeats 4000000 in
theorem law_case_28 {E : xE} {p : Program} {l : Launch} {e : Env} {s : State} {m : MethodId} {below : List Frame} {meth : Method} {c : Code} {b L : Nat} {xs : Nat → Int32} {x mm i : Nat} {k P H Pk Hk : Int32} {wx wm : va_W} (hS : LC E p s m meth c b L xs) (hB : HB E) (hL : L ≤ 3072) (hi : i + 6 ≤ L) (hx : FX E x k P H Pk Hk wx) (hm : FM E mm k P H Pk Hk wm) (kk : ∀ (k P H Pk Hk : Int32) (wx wm : va_W), FX E x k P H Pk Hk wx → FM E mm k P H Pk Hk wm → LX E p l e s m below meth c b (wm ++ wx) 1148 [(3, .int (nI i)), (2, .ref mm), (1, .ref x), (0, .ref b)] []) : LX E p l e s m below meth c b (wm ++ wx) 1102 [(3, .int (nI i)), (2, .ref mm), (1, .ref x), (0, .ref b)] [] := by
  have C := hS.1
  obtain ⟨ax, rfl, hWx, hJx⟩ := hx
  obtain ⟨am, cdm, rfl, hGm, hWm⟩ := hm
  obtain ⟨_, rx, v5, rfl⟩ := hWx 0 _ rfl
  obtain ⟨_, rm, hm0⟩ := hWm 0 _ rfl
  obtain ⟨_, _, _, _, _, _, _, _, _, _, _, _, _, _, _, _, _, _, _, _, _, _, _, _, _, rfl⟩ := hm0
  refine x_aload_n C dL_law_1102 rfl 2 rfl rfl ?_
  refine x_aload_n C dL_law_1103 rfl 3 rfl rfl ?_
  refine x_iload_n C dL_law_1104 rfl 0 rfl rfl ?_
  refine x_iconst C (v := 1) dL_law_1105 (by decide) rfl ?_
  refine x_iadd C (v := nI (i + 1)) dL_law_1106 (nI_add i 1) rfl ?_
  refine x_sld C hS.2.1 hS.2.2.1 hS.2.2.2.1 (i + 1) (nI_clamp (by omega)) (nI_pos (by omega)) (by omega) dL_law_1107 rfl ?_
  refine x_vk C (As := [.int (xs (i + 1))]) (rest := []) (W0 := wm) (wc := wx) (c_check E l ax wx hWx (xs (i + 1))) mf_X11_check w_1099 rfl 0 rx rfl rfl rfl (Nat.le_of_ble_eq_true rfl) ⟨(Nat.le_of_ble_eq_true rfl), (Nat.le_of_ble_eq_true rfl)⟩ ⟨(Nat.le_of_ble_eq_true rfl), (Nat.le_of_ble_eq_true rfl)⟩ dL_law_1108 rfl (fun r1 w1 h1 => ?_)
  refine x_pop C dL_law_1111 rfl rfl ?_
  refine x_aload_n C dL_law_1112 rfl 1 rfl rfl ?_
  refine x_aload_n C dL_law_1113 rfl 3 rfl rfl ?_
  refine x_iload_n C dL_law_1114 rfl 0 rfl rfl ?_
  refine x_iconst C (v := 1) dL_law_1115 (by decide) rfl ?_
  refine x_iadd C (v := nI (i + 1)) dL_law_1116 (nI_add i 1) rfl ?_
  refine x_sld C hS.2.1 hS.2.2.1 hS.2.2.2.1 (i + 1) (nI_clamp (by omega)) (nI_pos (by omega)) (by omega) dL_law_1117 rfl ?_
  refine x_swap ?_
  refine x_vk C (As := [.int (xs (i + 1))]) (rest := []) (W0 := w1) (wc := wm) (m_check E l am cdm hGm k (some (P, H)) none (some (Pk, Hk)) wm hWm (xs (i + 1))) mf_X12_check w_1678 rfl 0 rm rfl rfl rfl (Nat.le_of_ble_eq_true rfl) ⟨(Nat.le_of_ble_eq_true rfl), (Nat.le_of_ble_eq_true rfl)⟩ ⟨(Nat.le_of_ble_eq_true rfl), (Nat.le_of_ble_eq_true rfl)⟩ dL_law_1118 rfl (fun r2 w2 h2 => ?_)
  refine x_swap ?_
  refine x_pop C dL_law_1121 rfl rfl ?_
  refine x_goto C (tgt := 1148) dL_law_1122 (by decide) ?_
  exact kk k P H Pk Hk w1 w2 ⟨ax, rfl, h1.1, JX_keep hJx h1.2⟩ ⟨am, cdm, rfl, hGm, h2⟩
set_option maxRecDepth 20000 in
set_option maxHeartbeats 4000000 in
theorem law_case_29 {E : xE} {p : Program} {l : Launch} {e : Env} {s : State} {m : MethodId} {below : List Frame} {meth : Method} {c : Code} {b L : Nat} {xs : Nat → Int32} {x mm i : Nat} {k P H Pk Hk : Int32} {wx wm : va_W} (hS : LC E p s m meth c b L xs) (hB : HB E) (hL : L ≤ 3072) (hi : i + 6 ≤ L) (hx : FX E x k P H Pk Hk wx) (hm : FM E mm k P H Pk Hk wm) (kk : ∀ (k P H Pk Hk : Int32) (wx wm : va_W), FX E x k P H Pk Hk wx → FM E mm k P H Pk Hk wm → LX E p l e s m below meth c b (wm ++ wx) 1148 [(3, .int (nI i)), (2, .ref mm), (1, .ref x), (0, .ref b)] []) : LX E p l e s m below meth c b (wm ++ wx) 1125 [(3, .int (nI i)), (2, .ref mm), (1, .ref x), (0, .ref b)] [] := by
  have C := hS.1
  obtain ⟨ax, rfl, hWx, hJx⟩ := hx
  obtain ⟨am, cdm, rfl, hGm, hWm⟩ := hm
  obtain ⟨_, rx, v5, rfl⟩ := hWx 0 _ rfl
  obtain ⟨_, rm, hm0⟩ := hWm 0 _ rfl
  obtain ⟨_, _, _, _, _, _, _, _, _, _, _, _, _, _, _, _, _, _, _, _, _, _, _, _, _, rfl⟩ := hm0
  refine x_aload_n C dL_law_1125 rfl 2 rfl rfl ?_
  refine x_aload_n C dL_law_1126 rfl 3 rfl rfl ?_
  refine x_iload_n C dL_law_1127 rfl 0 rfl rfl ?_
  refine x_iconst C (v := 1) dL_law_1128 (by decide) rfl ?_
  refine x_iadd C (v := nI (i + 1)) dL_law_1129 (nI_add i 1) rfl ?_
  refine x_sld C hS.2.1 hS.2.2.1 hS.2.2.2.1 (i + 1) (nI_clamp (by omega)) (nI_pos (by omega)) (by omega) dL_law_1130 rfl ?_
  refine x_vk C (As := [.int (xs (i + 1))]) (rest := []) (W0 := wm) (wc := wx) (c_count E l ax wx hWx (xs (i + 1))) mf_X11_count w_1108 rfl 0 rx rfl rfl rfl (Nat.le_of_ble_eq_true rfl) ⟨(Nat.le_of_ble_eq_true rfl), (Nat.le_of_ble_eq_true rfl)⟩ ⟨(Nat.le_of_ble_eq_true rfl), (Nat.le_of_ble_eq_true rfl)⟩ dL_law_1131 rfl (fun r1 w1 h1 => ?_)
  refine x_pop C dL_law_1134 rfl rfl ?_
  refine x_aload_n C dL_law_1135 rfl 1 rfl rfl ?_
  refine x_aload_n C dL_law_1136 rfl 3 rfl rfl ?_
  refine x_iload_n C dL_law_1137 rfl 0 rfl rfl ?_
  refine x_iconst C (v := 1) dL_law_1138 (by decide) rfl ?_
  refine x_iadd C (v := nI (i + 1)) dL_law_1139 (nI_add i 1) rfl ?_
  refine x_sld C hS.2.1 hS.2.2.1 hS.2.2.2.1 (i + 1) (nI_clamp (by omega)) (nI_pos (by omega)) (by omega) dL_law_1140 rfl ?_
  refine x_swap ?_
  refine x_vk C (As := [.int (xs (i + 1))]) (rest := []) (W0 := w1) (wc := wm) (m_count E l am cdm hGm k (some (P, H)) none (some (Pk, Hk)) wm hWm (xs (i + 1))) mf_X12_count w_1686 rfl 0 rm rfl rfl rfl (Nat.le_of_ble_eq_true rfl) ⟨(Nat.le_of_ble_eq_true rfl), (Nat.le_of_ble_eq_true rfl)⟩ ⟨(Nat.le_of_ble_eq_true rfl), (Nat.le_of_ble_eq_true rfl)⟩ dL_law_1141 rfl (fun r2 w2 h2 => ?_)
  refine x_swap ?_
  refine x_pop C dL_law_1144 rfl rfl ?_
  refine x_goto C (tgt := 1148) dL_law_1145 (by decide) ?_
  exact kk k P H Pk Hk w1 w2 ⟨ax, rfl, h1.1, JX_keep hJx h1.2⟩ ⟨am, cdm, rfl, hGm, h2⟩
set_option maxRecDepth 20000 in
set_option maxHeartbeats 4000000 in
theorem law_step {E : xE} {p : Program} {l : Launch} {e : Env} {s : State} {m : MethodId} {below : List Frame} {meth : Method} {c : Code} {b L : Nat} {xs : Nat → Int32} {x mm i : Nat} {k P H Pk Hk : Int32} {wx wm : va_W} (hS : LC E p s m meth c b L xs) (hB : HB E) (hL : L ≤ 3072) (hi : i + 6 ≤ L) (hx : FX E x k P H Pk Hk wx) (hm : FM E mm k P H Pk Hk wm) (kk : ∀ (k P H Pk Hk : Int32) (wx wm : va_W), FX E x k P H Pk Hk wx → FM E mm k P H Pk Hk wm → LX E p l e s m below meth c b (wm ++ wx) 1148 [(3, .int (nI i)), (2, .ref mm), (1, .ref x), (0, .ref b)] []) : LX E p l e s m below meth c b (wm ++ wx) 27 [(3, .int (nI i)), (2, .ref mm), (1, .ref x), (0, .ref b)] [] := by
  have C := hS.1
  refine x_aload_n C dL_law_27 rfl 3 rfl rfl ?_
  refine x_iload_n C dL_law_28 rfl 0 rfl rfl ?_
  refine x_sld C hS.2.1 hS.2.2.1 hS.2.2.2.1 i (nI_clamp (by omega)) (nI_pos (by omega)) (by omega) dL_law_29 rfl ?_
  refine x_bipush C (v := 31) dL_law_30 (by decide) rfl ?_
  refine x_iand C (v := xs i &&& 31) dL_law_32 rfl rfl ?_
  obtain ⟨j, hj, ej⟩ := pk_andE (xs i) (m := 31) 5 (by decide)
  refine x_top ej ?_
  by_cases h30 : 30 ≤ j
  · refine x_tabOut C (tgt := 1148) dL_law_33 (Or.inr (by rw [nI_toInt (by omega)]; omega)) (by decide) ?_
    exact kk _ _ _ _ _ wx wm hx hm
  by_cases e0 : j = 0
  · subst e0
    exact x_tabIn C (off := 135) (tgt := 168) dL_law_33 (by decide) (by decide) (by decide) (by decide) (law_case_0 hS hB hL hi hx hm kk)
  by_cases e1 : j = 1
  · subst e1
    exact x_tabIn C (off := 158) (tgt := 191) dL_law_33 (by decide) (by decide) (by decide) (by decide) (law_case_1 hS hB hL hi hx hm kk)
  by_cases e2 : j = 2
  · subst e2
    exact x_tabIn C (off := 201) (tgt := 234) dL_law_33 (by decide) (by decide) (by decide) (by decide) (law_case_2 hS hB hL hi hx hm kk)
  by_cases e3 : j = 3
  · subst e3
    exact x_tabIn C (off := 224) (tgt := 257) dL_law_33 (by decide) (by decide) (by decide) (by decide) (law_case_3 hS hB hL hi hx hm kk)
  by_cases e4 : j = 4
  · subst e4
    exact x_tabIn C (off := 277) (tgt := 310) dL_law_33 (by decide) (by decide) (by decide) (by decide) (law_case_4 hS hB hL hi hx hm kk)
  by_cases e5 : j = 5
  · subst e5
    exact x_tabIn C (off := 290) (tgt := 323) dL_law_33 (by decide) (by decide) (by decide) (by decide) (law_case_5 hS hB hL hi hx hm kk)
  by_cases e6 : j = 6
  · subst e6
    exact x_tabIn C (off := 353) (tgt := 386) dL_law_33 (by decide) (by decide) (by decide) (by decide) (law_case_6 hS hB hL hi hx hm kk)
  by_cases e7 : j = 7
  · subst e7
    exact x_tabIn C (off := 376) (tgt := 409) dL_law_33 (by decide) (by decide) (by decide) (by decide) (law_case_7 hS hB hL hi hx hm kk)
  by_cases e8 : j = 8
  · subst e8
    exact x_tabIn C (off := 399) (tgt := 432) dL_law_33 (by decide) (by decide) (by decide) (by decide) (law_case_8 hS hB hL hi hx hm kk)
  by_cases e9 : j = 9
  · subst e9
    exact x_tabIn C (off := 422) (tgt := 455) dL_law_33 (by decide) (by decide) (by decide) (by decide) (law_case_9 hS hB hL hi hx hm kk)
  by_cases e10 : j = 10
  · subst e10
    exact x_tabIn C (off := 445) (tgt := 478) dL_law_33 (by decide) (by decide) (by decide) (by decide) (law_case_10 hS hB hL hi hx hm kk)
  by_cases e11 : j = 11
  · subst e11
    exact x_tabIn C (off := 478) (tgt := 511) dL_law_33 (by decide) (by decide) (by decide) (by decide) (law_case_11 hS hB hL hi hx hm kk)
  by_cases e12 : j = 12
  · subst e12
    exact x_tabIn C (off := 511) (tgt := 544) dL_law_33 (by decide) (by decide) (by decide) (by decide) (law_case_12 hS hB hL hi hx hm kk)
  by_cases e13 : j = 13
  · subst e13
    exact x_tabIn C (off := 544) (tgt := 577) dL_law_33 (by decide) (by decide) (by decide) (by decide) (law_case_13 hS hB hL hi hx hm kk)
  by_cases e14 : j = 14
  · subst e14
    exact x_tabIn C (off := 577) (tgt := 610) dL_law_33 (by decide) (by decide) (by decide) (by decide) (law_case_14 hS hB hL hi hx hm kk)
  by_cases e15 : j = 15
  · subst e15
    exact x_tabIn C (off := 620) (tgt := 653) dL_law_33 (by decide) (by decide) (by decide) (by decide) (law_case_15 hS hB hL hi hx hm kk)
  by_cases e16 : j = 16
  · subst e16
    exact x_tabIn C (off := 663) (tgt := 696) dL_law_33 (by decide) (by decide) (by decide) (by decide) (law_case_16 hS hB hL hi hx hm kk)
  by_cases e17 : j = 17
  · subst e17
    exact x_tabIn C (off := 706) (tgt := 739) dL_law_33 (by decide) (by decide) (by decide) (by decide) (law_case_17 hS hB hL hi hx hm kk)
  by_cases e18 : j = 18
  · subst e18
    exact x_tabIn C (off := 749) (tgt := 782) dL_law_33 (by decide) (by decide) (by decide) (by decide) (law_case_18 hS hB hL hi hx hm kk)
  by_cases e19 : j = 19
  · subst e19
    exact x_tabIn C (off := 782) (tgt := 815) dL_law_33 (by decide) (by decide) (by decide) (by decide) (law_case_19 hS hB hL hi hx hm kk)
  by_cases e20 : j = 20
  · subst e20
    exact x_tabIn C (off := 825) (tgt := 858) dL_law_33 (by decide) (by decide) (by decide) (by decide) (law_case_20 hS hB hL hi hx hm kk)
  by_cases e21 : j = 21
  · subst e21
    exact x_tabIn C (off := 848) (tgt := 881) dL_law_33 (by decide) (by decide) (by decide) (by decide) (law_case_21 hS hB hL hi hx hm kk)
  by_cases e22 : j = 22
  · subst e22
    exact x_tabIn C (off := 891) (tgt := 924) dL_law_33 (by decide) (by decide) (by decide) (by decide) (law_case_22 hS hB hL hi hx hm kk)
  by_cases e23 : j = 23
  · subst e23
    exact x_tabIn C (off := 924) (tgt := 957) dL_law_33 (by decide) (by decide) (by decide) (by decide) (law_case_23 hS hB hL hi hx hm kk)
  by_cases e24 : j = 24
  · subst e24
    exact x_tabIn C (off := 957) (tgt := 990) dL_law_33 (by decide) (by decide) (by decide) (by decide) (law_case_24 hS hB hL hi hx hm kk)
  by_cases e25 : j = 25
  · subst e25
    exact x_tabIn C (off := 1020) (tgt := 1053) dL_law_33 (by decide) (by decide) (by decide) (by decide) (law_case_25 hS hB hL hi hx hm kk)
  by_cases e26 : j = 26
  · subst e26
    exact x_tabIn C (off := 1043) (tgt := 1076) dL_law_33 (by decide) (by decide) (by decide) (by decide) (law_case_26 hS hB hL hi hx hm kk)
  by_cases e27 : j = 27
  · subst e27
    exact x_tabIn C (off := 1056) (tgt := 1089) dL_law_33 (by decide) (by decide) (by decide) (by decide) (law_case_27 hS hB hL hi hx hm kk)
  by_cases e28 : j = 28
  · subst e28
    exact x_tabIn C (off := 1069) (tgt := 1102) dL_law_33 (by decide) (by decide) (by decide) (by decide) (law_case_28 hS hB hL hi hx hm kk)
  have e29 : j = 29 := by omega
  subst e29
  exact x_tabIn C (off := 1092) (tgt := 1125) dL_law_33 (by decide) (by decide) (by decide) (by decide) (law_case_29 hS hB hL hi hx hm kk)
theorem six_le {i L : Nat} (hi : i ≤ 3078) (hL : L ≤ 3072) (h : ¬ nI L - 6 < nI i) : i + 6 ≤ L := by
  rw [Int32.lt_iff_toInt_lt, Int32.toInt_sub, nI_toInt (by omega), nI_toInt (by omega), show (6 : Int32).toInt = 6 from by decide, bmod_lo (x := (L : Int) - 6) (by omega) (by omega)] at h
  omega
set_option maxRecDepth 20000 in
set_option maxHeartbeats 4000000 in
theorem law_loop {E : xE} {p : Program} {l : Launch} {e : Env} {s : State} {m : MethodId} {below : List Frame} {meth : Method} {c : Code} {b L : Nat} {xs : Nat → Int32} {x mm : Nat} (hS : LC E p s m meth c b L xs) (hB : HB E) (hL : L ≤ 3072) : ∀ (fu i : Nat) (k P H Pk Hk : Int32) (wx wm : va_W), 3079 - i < fu → i ≤ 3078 → FX E x k P H Pk Hk wx → FM E mm k P H Pk Hk wm → LX E p l e s m below meth c b (wm ++ wx) 18 [(3, .int (nI i)), (2, .ref mm), (1, .ref x), (0, .ref b)] [] := by
  have C := hS.1
  intro fu
  induction fu with
  | zero => intro i k P H Pk Hk wx wm q; omega
  | succ fu ih =>
    intro i k P H Pk Hk wx wm hfu hi hx hm
    refine x_iload_n C dL_law_18 rfl 0 rfl rfl ?_
    refine x_aload_n C dL_law_19 rfl 3 rfl rfl ?_
    refine x_slen C hS.2.1 hS.2.2.1 hS.2.2.2.1 (v := nI L) rfl dL_law_20 rfl ?_
    refine x_bipush C (v := 6) dL_law_21 (by decide) rfl ?_
    refine x_isub C (v := (nI L - 6)) dL_law_23 rfl rfl ?_
    refine x_icmp_gt C (tgt := 1154) dL_law_24 (by decide) rfl (fun cg => ?_) (fun cg => ?_)
    · refine x_iconst C (v := 1) dL_law_1154 (by decide) rfl ?_
      exact x_lret C hS.2.2.2.2.1 hS.2.2.2.2.2 (by decide) (by decide) dL_law_1155
    · have h6 := six_le hi hL cg
      refine law_step hS hB hL h6 hx hm (fun k1 P1 H1 Pk1 Hk1 wx1 wm1 hx1 hm1 => ?_)
      refine x_iinc C (v := nI (i + 6)) (lv' := [(3, .int (nI (i + 6))), (2, .ref mm), (1, .ref x), (0, .ref b)]) dL_law_1148 0 rfl (nI_add i 6) (by decide) rfl rfl ?_
      refine x_goto C (tgt := 18) dL_law_1151 (by decide) ?_
      exact ih (i + 6) k1 P1 H1 Pk1 Hk1 wx1 wm1 (by omega) (by omega) hx1 hm1
