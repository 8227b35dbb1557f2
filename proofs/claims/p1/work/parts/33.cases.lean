theorem dL_law_148 : decode cL_law 148 = .ok (.aload_n 1, 1) := by decide +kernel
theorem dL_law_149 : decode cL_law 149 = .ok (.aload_n 0, 1) := by decide +kernel
theorem dL_law_150 : decode cL_law 150 = .ok (.iload_n 3, 1) := by decide +kernel
theorem dL_law_151 : decode cL_law 151 = .ok (.iconst 1, 1) := by decide +kernel
theorem dL_law_152 : decode cL_law 152 = .ok (.iadd, 1) := by decide +kernel
theorem dL_law_153 : decode cL_law 153 = .ok (.iaload, 1) := by decide +kernel
theorem dL_law_154 : decode cL_law 154 = .ok (.aload_n 0, 1) := by decide +kernel
theorem dL_law_155 : decode cL_law 155 = .ok (.iload_n 3, 1) := by decide +kernel
theorem dL_law_156 : decode cL_law 156 = .ok (.iconst 2, 1) := by decide +kernel
theorem dL_law_157 : decode cL_law 157 = .ok (.iadd, 1) := by decide +kernel
theorem dL_law_158 : decode cL_law 158 = .ok (.iaload, 1) := by decide +kernel
theorem dL_law_159 : decode cL_law 159 = .ok (.aload_n 0, 1) := by decide +kernel
theorem dL_law_160 : decode cL_law 160 = .ok (.iload_n 3, 1) := by decide +kernel
theorem dL_law_161 : decode cL_law 161 = .ok (.iconst 3, 1) := by decide +kernel
theorem dL_law_162 : decode cL_law 162 = .ok (.iadd, 1) := by decide +kernel
theorem dL_law_163 : decode cL_law 163 = .ok (.iaload, 1) := by decide +kernel
theorem dL_law_164 : decode cL_law 164 = .ok (.aload_n 0, 1) := by decide +kernel
theorem dL_law_165 : decode cL_law 165 = .ok (.iload_n 3, 1) := by decide +kernel
theorem dL_law_166 : decode cL_law 166 = .ok (.iconst 4, 1) := by decide +kernel
theorem dL_law_167 : decode cL_law 167 = .ok (.iadd, 1) := by decide +kernel
theorem dL_law_168 : decode cL_law 168 = .ok (.iaload, 1) := by decide +kernel
theorem dL_law_169 : decode cL_law 169 = .ok (.aload_n 0, 1) := by decide +kernel
theorem dL_law_170 : decode cL_law 170 = .ok (.iload_n 3, 1) := by decide +kernel
theorem dL_law_171 : decode cL_law 171 = .ok (.iconst 5, 1) := by decide +kernel
theorem dL_law_172 : decode cL_law 172 = .ok (.iadd, 1) := by decide +kernel
theorem dL_law_173 : decode cL_law 173 = .ok (.iaload, 1) := by decide +kernel
theorem dL_law_174 : decode cL_law 174 = .ok (.invokevirtual 21, 3) := by decide +kernel
theorem dL_law_177 : decode cL_law 177 = .ok (.aload_n 2, 1) := by decide +kernel
theorem dL_law_178 : decode cL_law 178 = .ok (.aload_n 0, 1) := by decide +kernel
theorem dL_law_179 : decode cL_law 179 = .ok (.iload_n 3, 1) := by decide +kernel
theorem dL_law_180 : decode cL_law 180 = .ok (.iconst 1, 1) := by decide +kernel
theorem dL_law_181 : decode cL_law 181 = .ok (.iadd, 1) := by decide +kernel
theorem dL_law_182 : decode cL_law 182 = .ok (.iaload, 1) := by decide +kernel
theorem dL_law_183 : decode cL_law 183 = .ok (.aload_n 0, 1) := by decide +kernel
theorem dL_law_184 : decode cL_law 184 = .ok (.iload_n 3, 1) := by decide +kernel
theorem dL_law_185 : decode cL_law 185 = .ok (.iconst 2, 1) := by decide +kernel
theorem dL_law_186 : decode cL_law 186 = .ok (.iadd, 1) := by decide +kernel
theorem dL_law_187 : decode cL_law 187 = .ok (.iaload, 1) := by decide +kernel
theorem dL_law_188 : decode cL_law 188 = .ok (.aload_n 0, 1) := by decide +kernel
theorem dL_law_189 : decode cL_law 189 = .ok (.iload_n 3, 1) := by decide +kernel
theorem dL_law_190 : decode cL_law 190 = .ok (.iconst 3, 1) := by decide +kernel
theorem dL_law_191 : decode cL_law 191 = .ok (.iadd, 1) := by decide +kernel
theorem dL_law_192 : decode cL_law 192 = .ok (.iaload, 1) := by decide +kernel
theorem dL_law_193 : decode cL_law 193 = .ok (.aload_n 0, 1) := by decide +kernel
theorem dL_law_194 : decode cL_law 194 = .ok (.iload_n 3, 1) := by decide +kernel
theorem dL_law_195 : decode cL_law 195 = .ok (.iconst 4, 1) := by decide +kernel
theorem dL_law_196 : decode cL_law 196 = .ok (.iadd, 1) := by decide +kernel
theorem dL_law_197 : decode cL_law 197 = .ok (.iaload, 1) := by decide +kernel
theorem dL_law_198 : decode cL_law 198 = .ok (.aload_n 0, 1) := by decide +kernel
theorem dL_law_199 : decode cL_law 199 = .ok (.iload_n 3, 1) := by decide +kernel
theorem dL_law_200 : decode cL_law 200 = .ok (.iconst 5, 1) := by decide +kernel
theorem dL_law_201 : decode cL_law 201 = .ok (.iadd, 1) := by decide +kernel
theorem dL_law_202 : decode cL_law 202 = .ok (.iaload, 1) := by decide +kernel
theorem dL_law_203 : decode cL_law 203 = .ok (.invokevirtual 25, 3) := by decide +kernel
theorem dL_law_206 : decode cL_law 206 = .ok (.if_icmp .eq 741, 3) := by decide +kernel
theorem dL_law_211 : decode cL_law 211 = .ok (.aload_n 1, 1) := by decide +kernel
theorem dL_law_212 : decode cL_law 212 = .ok (.aload_n 0, 1) := by decide +kernel
theorem dL_law_213 : decode cL_law 213 = .ok (.iload_n 3, 1) := by decide +kernel
theorem dL_law_214 : decode cL_law 214 = .ok (.iconst 1, 1) := by decide +kernel
theorem dL_law_215 : decode cL_law 215 = .ok (.iadd, 1) := by decide +kernel
theorem dL_law_216 : decode cL_law 216 = .ok (.iaload, 1) := by decide +kernel
theorem dL_law_217 : decode cL_law 217 = .ok (.invokevirtual 26, 3) := by decide +kernel
theorem dL_law_220 : decode cL_law 220 = .ok (.aload_n 2, 1) := by decide +kernel
theorem dL_law_221 : decode cL_law 221 = .ok (.aload_n 0, 1) := by decide +kernel
theorem dL_law_222 : decode cL_law 222 = .ok (.iload_n 3, 1) := by decide +kernel
theorem dL_law_223 : decode cL_law 223 = .ok (.iconst 1, 1) := by decide +kernel
theorem dL_law_224 : decode cL_law 224 = .ok (.iadd, 1) := by decide +kernel
theorem dL_law_225 : decode cL_law 225 = .ok (.iaload, 1) := by decide +kernel
theorem dL_law_226 : decode cL_law 226 = .ok (.invokevirtual 30, 3) := by decide +kernel
theorem dL_law_229 : decode cL_law 229 = .ok (.if_icmp .eq 718, 3) := by decide +kernel
theorem dL_law_234 : decode cL_law 234 = .ok (.aload_n 1, 1) := by decide +kernel
theorem dL_law_235 : decode cL_law 235 = .ok (.invokevirtual 31, 3) := by decide +kernel
theorem dL_law_238 : decode cL_law 238 = .ok (.aload_n 2, 1) := by decide +kernel
theorem dL_law_239 : decode cL_law 239 = .ok (.invokevirtual 35, 3) := by decide +kernel
theorem dL_law_242 : decode cL_law 242 = .ok (.if_icmp .eq 705, 3) := by decide +kernel
theorem dL_law_247 : decode cL_law 247 = .ok (.aload_n 1, 1) := by decide +kernel
theorem dL_law_248 : decode cL_law 248 = .ok (.aload_n 0, 1) := by decide +kernel
theorem dL_law_249 : decode cL_law 249 = .ok (.iload_n 3, 1) := by decide +kernel
theorem dL_law_250 : decode cL_law 250 = .ok (.iconst 1, 1) := by decide +kernel
theorem dL_law_251 : decode cL_law 251 = .ok (.iadd, 1) := by decide +kernel
theorem dL_law_252 : decode cL_law 252 = .ok (.iaload, 1) := by decide +kernel
theorem dL_law_253 : decode cL_law 253 = .ok (.invokevirtual 36, 3) := by decide +kernel
theorem dL_law_256 : decode cL_law 256 = .ok (.aload_n 2, 1) := by decide +kernel
theorem dL_law_257 : decode cL_law 257 = .ok (.aload_n 0, 1) := by decide +kernel
theorem dL_law_258 : decode cL_law 258 = .ok (.iload_n 3, 1) := by decide +kernel
theorem dL_law_259 : decode cL_law 259 = .ok (.iconst 1, 1) := by decide +kernel
theorem dL_law_260 : decode cL_law 260 = .ok (.iadd, 1) := by decide +kernel
theorem dL_law_261 : decode cL_law 261 = .ok (.iaload, 1) := by decide +kernel
theorem dL_law_262 : decode cL_law 262 = .ok (.invokevirtual 39, 3) := by decide +kernel
theorem dL_law_265 : decode cL_law 265 = .ok (.if_icmp .eq 682, 3) := by decide +kernel
theorem dL_law_270 : decode cL_law 270 = .ok (.aload_n 1, 1) := by decide +kernel
theorem dL_law_271 : decode cL_law 271 = .ok (.aload_n 0, 1) := by decide +kernel
theorem dL_law_272 : decode cL_law 272 = .ok (.iload_n 3, 1) := by decide +kernel
theorem dL_law_273 : decode cL_law 273 = .ok (.iconst 1, 1) := by decide +kernel
theorem dL_law_274 : decode cL_law 274 = .ok (.iadd, 1) := by decide +kernel
theorem dL_law_275 : decode cL_law 275 = .ok (.iaload, 1) := by decide +kernel
theorem dL_law_276 : decode cL_law 276 = .ok (.invokevirtual 40, 3) := by decide +kernel
theorem dL_law_279 : decode cL_law 279 = .ok (.aload_n 2, 1) := by decide +kernel
theorem dL_law_280 : decode cL_law 280 = .ok (.aload_n 0, 1) := by decide +kernel
theorem dL_law_281 : decode cL_law 281 = .ok (.iload_n 3, 1) := by decide +kernel
theorem dL_law_282 : decode cL_law 282 = .ok (.iconst 1, 1) := by decide +kernel
theorem dL_law_283 : decode cL_law 283 = .ok (.iadd, 1) := by decide +kernel
theorem dL_law_284 : decode cL_law 284 = .ok (.iaload, 1) := by decide +kernel
theorem dL_law_285 : decode cL_law 285 = .ok (.invokevirtual 44, 3) := by decide +kernel
theorem dL_law_288 : decode cL_law 288 = .ok (.if_icmp .eq 659, 3) := by decide +kernel
theorem dL_law_293 : decode cL_law 293 = .ok (.aload_n 1, 1) := by decide +kernel
theorem dL_law_294 : decode cL_law 294 = .ok (.aload_n 0, 1) := by decide +kernel
theorem dL_law_295 : decode cL_law 295 = .ok (.iload_n 3, 1) := by decide +kernel
theorem dL_law_296 : decode cL_law 296 = .ok (.iconst 1, 1) := by decide +kernel
theorem dL_law_297 : decode cL_law 297 = .ok (.iadd, 1) := by decide +kernel
theorem dL_law_298 : decode cL_law 298 = .ok (.iaload, 1) := by decide +kernel
theorem dL_law_299 : decode cL_law 299 = .ok (.invokevirtual 45, 3) := by decide +kernel
theorem dL_law_302 : decode cL_law 302 = .ok (.aload_n 2, 1) := by decide +kernel
theorem dL_law_303 : decode cL_law 303 = .ok (.aload_n 0, 1) := by decide +kernel
theorem dL_law_304 : decode cL_law 304 = .ok (.iload_n 3, 1) := by decide +kernel
theorem dL_law_305 : decode cL_law 305 = .ok (.iconst 1, 1) := by decide +kernel
theorem dL_law_306 : decode cL_law 306 = .ok (.iadd, 1) := by decide +kernel
theorem dL_law_307 : decode cL_law 307 = .ok (.iaload, 1) := by decide +kernel
theorem dL_law_308 : decode cL_law 308 = .ok (.invokevirtual 48, 3) := by decide +kernel
theorem dL_law_311 : decode cL_law 311 = .ok (.if_icmp .eq 636, 3) := by decide +kernel
theorem dL_law_316 : decode cL_law 316 = .ok (.aload_n 1, 1) := by decide +kernel
theorem dL_law_317 : decode cL_law 317 = .ok (.aload_n 0, 1) := by decide +kernel
theorem dL_law_318 : decode cL_law 318 = .ok (.iload_n 3, 1) := by decide +kernel
theorem dL_law_319 : decode cL_law 319 = .ok (.iconst 1, 1) := by decide +kernel
theorem dL_law_320 : decode cL_law 320 = .ok (.iadd, 1) := by decide +kernel
theorem dL_law_321 : decode cL_law 321 = .ok (.iaload, 1) := by decide +kernel
theorem dL_law_322 : decode cL_law 322 = .ok (.aload_n 0, 1) := by decide +kernel
theorem dL_law_323 : decode cL_law 323 = .ok (.iload_n 3, 1) := by decide +kernel
theorem dL_law_324 : decode cL_law 324 = .ok (.iconst 2, 1) := by decide +kernel
theorem dL_law_325 : decode cL_law 325 = .ok (.iadd, 1) := by decide +kernel
theorem dL_law_326 : decode cL_law 326 = .ok (.iaload, 1) := by decide +kernel
theorem dL_law_327 : decode cL_law 327 = .ok (.aload_n 0, 1) := by decide +kernel
theorem dL_law_328 : decode cL_law 328 = .ok (.iload_n 3, 1) := by decide +kernel
theorem dL_law_329 : decode cL_law 329 = .ok (.iconst 3, 1) := by decide +kernel
theorem dL_law_330 : decode cL_law 330 = .ok (.iadd, 1) := by decide +kernel
theorem dL_law_331 : decode cL_law 331 = .ok (.iaload, 1) := by decide +kernel
theorem dL_law_332 : decode cL_law 332 = .ok (.aload_n 0, 1) := by decide +kernel
theorem dL_law_333 : decode cL_law 333 = .ok (.iload_n 3, 1) := by decide +kernel
theorem dL_law_334 : decode cL_law 334 = .ok (.iconst 4, 1) := by decide +kernel
theorem dL_law_335 : decode cL_law 335 = .ok (.iadd, 1) := by decide +kernel
theorem dL_law_336 : decode cL_law 336 = .ok (.iaload, 1) := by decide +kernel
theorem dL_law_337 : decode cL_law 337 = .ok (.aload_n 0, 1) := by decide +kernel
theorem dL_law_338 : decode cL_law 338 = .ok (.iload_n 3, 1) := by decide +kernel
theorem dL_law_339 : decode cL_law 339 = .ok (.iconst 5, 1) := by decide +kernel
theorem dL_law_340 : decode cL_law 340 = .ok (.iadd, 1) := by decide +kernel
theorem dL_law_341 : decode cL_law 341 = .ok (.iaload, 1) := by decide +kernel
theorem dL_law_342 : decode cL_law 342 = .ok (.invokevirtual 49, 3) := by decide +kernel
theorem dL_law_345 : decode cL_law 345 = .ok (.aload_n 2, 1) := by decide +kernel
theorem dL_law_346 : decode cL_law 346 = .ok (.aload_n 0, 1) := by decide +kernel
theorem dL_law_347 : decode cL_law 347 = .ok (.iload_n 3, 1) := by decide +kernel
theorem dL_law_348 : decode cL_law 348 = .ok (.iconst 1, 1) := by decide +kernel
theorem dL_law_349 : decode cL_law 349 = .ok (.iadd, 1) := by decide +kernel
theorem dL_law_350 : decode cL_law 350 = .ok (.iaload, 1) := by decide +kernel
theorem dL_law_351 : decode cL_law 351 = .ok (.aload_n 0, 1) := by decide +kernel
theorem dL_law_352 : decode cL_law 352 = .ok (.iload_n 3, 1) := by decide +kernel
theorem dL_law_353 : decode cL_law 353 = .ok (.iconst 2, 1) := by decide +kernel
theorem dL_law_354 : decode cL_law 354 = .ok (.iadd, 1) := by decide +kernel
theorem dL_law_355 : decode cL_law 355 = .ok (.iaload, 1) := by decide +kernel
theorem dL_law_356 : decode cL_law 356 = .ok (.aload_n 0, 1) := by decide +kernel
theorem dL_law_357 : decode cL_law 357 = .ok (.iload_n 3, 1) := by decide +kernel
theorem dL_law_358 : decode cL_law 358 = .ok (.iconst 3, 1) := by decide +kernel
theorem dL_law_359 : decode cL_law 359 = .ok (.iadd, 1) := by decide +kernel
theorem dL_law_360 : decode cL_law 360 = .ok (.iaload, 1) := by decide +kernel
theorem dL_law_361 : decode cL_law 361 = .ok (.aload_n 0, 1) := by decide +kernel
theorem dL_law_362 : decode cL_law 362 = .ok (.iload_n 3, 1) := by decide +kernel
theorem dL_law_363 : decode cL_law 363 = .ok (.iconst 4, 1) := by decide +kernel
theorem dL_law_364 : decode cL_law 364 = .ok (.iadd, 1) := by decide +kernel
theorem dL_law_365 : decode cL_law 365 = .ok (.iaload, 1) := by decide +kernel
theorem dL_law_366 : decode cL_law 366 = .ok (.aload_n 0, 1) := by decide +kernel
theorem dL_law_367 : decode cL_law 367 = .ok (.iload_n 3, 1) := by decide +kernel
theorem dL_law_368 : decode cL_law 368 = .ok (.iconst 5, 1) := by decide +kernel
theorem dL_law_369 : decode cL_law 369 = .ok (.iadd, 1) := by decide +kernel
theorem dL_law_370 : decode cL_law 370 = .ok (.iaload, 1) := by decide +kernel
theorem dL_law_371 : decode cL_law 371 = .ok (.invokevirtual 52, 3) := by decide +kernel
theorem dL_law_374 : decode cL_law 374 = .ok (.if_icmp .eq 573, 3) := by decide +kernel
theorem dL_law_379 : decode cL_law 379 = .ok (.aload_n 1, 1) := by decide +kernel
theorem dL_law_380 : decode cL_law 380 = .ok (.aload_n 0, 1) := by decide +kernel
theorem dL_law_381 : decode cL_law 381 = .ok (.iload_n 3, 1) := by decide +kernel
theorem dL_law_382 : decode cL_law 382 = .ok (.iconst 1, 1) := by decide +kernel
theorem dL_law_383 : decode cL_law 383 = .ok (.iadd, 1) := by decide +kernel
theorem dL_law_384 : decode cL_law 384 = .ok (.iaload, 1) := by decide +kernel
theorem dL_law_385 : decode cL_law 385 = .ok (.aload_n 0, 1) := by decide +kernel
theorem dL_law_386 : decode cL_law 386 = .ok (.iload_n 3, 1) := by decide +kernel
theorem dL_law_387 : decode cL_law 387 = .ok (.iconst 2, 1) := by decide +kernel
theorem dL_law_388 : decode cL_law 388 = .ok (.iadd, 1) := by decide +kernel
theorem dL_law_389 : decode cL_law 389 = .ok (.iaload, 1) := by decide +kernel
theorem dL_law_390 : decode cL_law 390 = .ok (.invokevirtual 53, 3) := by decide +kernel
theorem dL_law_393 : decode cL_law 393 = .ok (.aload_n 2, 1) := by decide +kernel
theorem dL_law_394 : decode cL_law 394 = .ok (.aload_n 0, 1) := by decide +kernel
theorem dL_law_395 : decode cL_law 395 = .ok (.iload_n 3, 1) := by decide +kernel
theorem dL_law_396 : decode cL_law 396 = .ok (.iconst 1, 1) := by decide +kernel
theorem dL_law_397 : decode cL_law 397 = .ok (.iadd, 1) := by decide +kernel
theorem dL_law_398 : decode cL_law 398 = .ok (.iaload, 1) := by decide +kernel
theorem dL_law_399 : decode cL_law 399 = .ok (.aload_n 0, 1) := by decide +kernel
theorem dL_law_400 : decode cL_law 400 = .ok (.iload_n 3, 1) := by decide +kernel
theorem dL_law_401 : decode cL_law 401 = .ok (.iconst 2, 1) := by decide +kernel
theorem dL_law_402 : decode cL_law 402 = .ok (.iadd, 1) := by decide +kernel
theorem dL_law_403 : decode cL_law 403 = .ok (.iaload, 1) := by decide +kernel
theorem dL_law_404 : decode cL_law 404 = .ok (.invokevirtual 57, 3) := by decide +kernel
theorem dL_law_407 : decode cL_law 407 = .ok (.if_icmp .eq 540, 3) := by decide +kernel
theorem dL_law_412 : decode cL_law 412 = .ok (.aload_n 1, 1) := by decide +kernel
theorem dL_law_413 : decode cL_law 413 = .ok (.aload_n 0, 1) := by decide +kernel
theorem dL_law_414 : decode cL_law 414 = .ok (.iload_n 3, 1) := by decide +kernel
theorem dL_law_415 : decode cL_law 415 = .ok (.iconst 1, 1) := by decide +kernel
theorem dL_law_416 : decode cL_law 416 = .ok (.iadd, 1) := by decide +kernel
theorem dL_law_417 : decode cL_law 417 = .ok (.iaload, 1) := by decide +kernel
theorem dL_law_418 : decode cL_law 418 = .ok (.invokevirtual 58, 3) := by decide +kernel
theorem dL_law_421 : decode cL_law 421 = .ok (.aload_n 2, 1) := by decide +kernel
theorem dL_law_422 : decode cL_law 422 = .ok (.aload_n 0, 1) := by decide +kernel
theorem dL_law_423 : decode cL_law 423 = .ok (.iload_n 3, 1) := by decide +kernel
theorem dL_law_424 : decode cL_law 424 = .ok (.iconst 1, 1) := by decide +kernel
theorem dL_law_425 : decode cL_law 425 = .ok (.iadd, 1) := by decide +kernel
theorem dL_law_426 : decode cL_law 426 = .ok (.iaload, 1) := by decide +kernel
theorem dL_law_427 : decode cL_law 427 = .ok (.invokevirtual 61, 3) := by decide +kernel
theorem dL_law_430 : decode cL_law 430 = .ok (.if_icmp .eq 517, 3) := by decide +kernel
theorem dL_law_435 : decode cL_law 435 = .ok (.aload_n 1, 1) := by decide +kernel
theorem dL_law_436 : decode cL_law 436 = .ok (.aload_n 0, 1) := by decide +kernel
theorem dL_law_437 : decode cL_law 437 = .ok (.iload_n 3, 1) := by decide +kernel
theorem dL_law_438 : decode cL_law 438 = .ok (.iconst 1, 1) := by decide +kernel
theorem dL_law_439 : decode cL_law 439 = .ok (.iadd, 1) := by decide +kernel
theorem dL_law_440 : decode cL_law 440 = .ok (.iaload, 1) := by decide +kernel
theorem dL_law_441 : decode cL_law 441 = .ok (.aload_n 0, 1) := by decide +kernel
theorem dL_law_442 : decode cL_law 442 = .ok (.iload_n 3, 1) := by decide +kernel
theorem dL_law_443 : decode cL_law 443 = .ok (.iconst 2, 1) := by decide +kernel
theorem dL_law_444 : decode cL_law 444 = .ok (.iadd, 1) := by decide +kernel
theorem dL_law_445 : decode cL_law 445 = .ok (.iaload, 1) := by decide +kernel
theorem dL_law_446 : decode cL_law 446 = .ok (.aload_n 0, 1) := by decide +kernel
theorem dL_law_447 : decode cL_law 447 = .ok (.iload_n 3, 1) := by decide +kernel
theorem dL_law_448 : decode cL_law 448 = .ok (.iconst 3, 1) := by decide +kernel
theorem dL_law_449 : decode cL_law 449 = .ok (.iadd, 1) := by decide +kernel
theorem dL_law_450 : decode cL_law 450 = .ok (.iaload, 1) := by decide +kernel
theorem dL_law_451 : decode cL_law 451 = .ok (.invokevirtual 62, 3) := by decide +kernel
theorem dL_law_454 : decode cL_law 454 = .ok (.aload_n 2, 1) := by decide +kernel
theorem dL_law_455 : decode cL_law 455 = .ok (.aload_n 0, 1) := by decide +kernel
theorem dL_law_456 : decode cL_law 456 = .ok (.iload_n 3, 1) := by decide +kernel
theorem dL_law_457 : decode cL_law 457 = .ok (.iconst 1, 1) := by decide +kernel
theorem dL_law_458 : decode cL_law 458 = .ok (.iadd, 1) := by decide +kernel
theorem dL_law_459 : decode cL_law 459 = .ok (.iaload, 1) := by decide +kernel
theorem dL_law_460 : decode cL_law 460 = .ok (.aload_n 0, 1) := by decide +kernel
theorem dL_law_461 : decode cL_law 461 = .ok (.iload_n 3, 1) := by decide +kernel
theorem dL_law_462 : decode cL_law 462 = .ok (.iconst 2, 1) := by decide +kernel
theorem dL_law_463 : decode cL_law 463 = .ok (.iadd, 1) := by decide +kernel
theorem dL_law_464 : decode cL_law 464 = .ok (.iaload, 1) := by decide +kernel
theorem dL_law_465 : decode cL_law 465 = .ok (.aload_n 0, 1) := by decide +kernel
theorem dL_law_466 : decode cL_law 466 = .ok (.iload_n 3, 1) := by decide +kernel
theorem dL_law_467 : decode cL_law 467 = .ok (.iconst 3, 1) := by decide +kernel
theorem dL_law_468 : decode cL_law 468 = .ok (.iadd, 1) := by decide +kernel
theorem dL_law_469 : decode cL_law 469 = .ok (.iaload, 1) := by decide +kernel
theorem dL_law_470 : decode cL_law 470 = .ok (.invokevirtual 66, 3) := by decide +kernel
theorem dL_law_473 : decode cL_law 473 = .ok (.if_icmp .eq 474, 3) := by decide +kernel
theorem dL_law_478 : decode cL_law 478 = .ok (.aload_n 1, 1) := by decide +kernel
theorem dL_law_479 : decode cL_law 479 = .ok (.aload_n 0, 1) := by decide +kernel
theorem dL_law_480 : decode cL_law 480 = .ok (.iload_n 3, 1) := by decide +kernel
theorem dL_law_481 : decode cL_law 481 = .ok (.iconst 1, 1) := by decide +kernel
theorem dL_law_482 : decode cL_law 482 = .ok (.iadd, 1) := by decide +kernel
theorem dL_law_483 : decode cL_law 483 = .ok (.iaload, 1) := by decide +kernel
theorem dL_law_484 : decode cL_law 484 = .ok (.aload_n 0, 1) := by decide +kernel
theorem dL_law_485 : decode cL_law 485 = .ok (.iload_n 3, 1) := by decide +kernel
theorem dL_law_486 : decode cL_law 486 = .ok (.iconst 2, 1) := by decide +kernel
theorem dL_law_487 : decode cL_law 487 = .ok (.iadd, 1) := by decide +kernel
theorem dL_law_488 : decode cL_law 488 = .ok (.iaload, 1) := by decide +kernel
theorem dL_law_489 : decode cL_law 489 = .ok (.aload_n 0, 1) := by decide +kernel
theorem dL_law_490 : decode cL_law 490 = .ok (.iload_n 3, 1) := by decide +kernel
theorem dL_law_491 : decode cL_law 491 = .ok (.iconst 3, 1) := by decide +kernel
theorem dL_law_492 : decode cL_law 492 = .ok (.iadd, 1) := by decide +kernel
theorem dL_law_493 : decode cL_law 493 = .ok (.iaload, 1) := by decide +kernel
theorem dL_law_494 : decode cL_law 494 = .ok (.aload_n 0, 1) := by decide +kernel
theorem dL_law_495 : decode cL_law 495 = .ok (.iload_n 3, 1) := by decide +kernel
theorem dL_law_496 : decode cL_law 496 = .ok (.iconst 4, 1) := by decide +kernel
theorem dL_law_497 : decode cL_law 497 = .ok (.iadd, 1) := by decide +kernel
theorem dL_law_498 : decode cL_law 498 = .ok (.iaload, 1) := by decide +kernel
theorem dL_law_499 : decode cL_law 499 = .ok (.invokevirtual 67, 3) := by decide +kernel
theorem dL_law_502 : decode cL_law 502 = .ok (.aload_n 2, 1) := by decide +kernel
theorem dL_law_503 : decode cL_law 503 = .ok (.aload_n 0, 1) := by decide +kernel
theorem dL_law_504 : decode cL_law 504 = .ok (.iload_n 3, 1) := by decide +kernel
theorem dL_law_505 : decode cL_law 505 = .ok (.iconst 1, 1) := by decide +kernel
theorem dL_law_506 : decode cL_law 506 = .ok (.iadd, 1) := by decide +kernel
theorem dL_law_507 : decode cL_law 507 = .ok (.iaload, 1) := by decide +kernel
theorem dL_law_508 : decode cL_law 508 = .ok (.aload_n 0, 1) := by decide +kernel
theorem dL_law_509 : decode cL_law 509 = .ok (.iload_n 3, 1) := by decide +kernel
theorem dL_law_510 : decode cL_law 510 = .ok (.iconst 2, 1) := by decide +kernel
theorem dL_law_511 : decode cL_law 511 = .ok (.iadd, 1) := by decide +kernel
theorem dL_law_512 : decode cL_law 512 = .ok (.iaload, 1) := by decide +kernel
theorem dL_law_513 : decode cL_law 513 = .ok (.aload_n 0, 1) := by decide +kernel
theorem dL_law_514 : decode cL_law 514 = .ok (.iload_n 3, 1) := by decide +kernel
theorem dL_law_515 : decode cL_law 515 = .ok (.iconst 3, 1) := by decide +kernel
theorem dL_law_516 : decode cL_law 516 = .ok (.iadd, 1) := by decide +kernel
theorem dL_law_517 : decode cL_law 517 = .ok (.iaload, 1) := by decide +kernel
theorem dL_law_518 : decode cL_law 518 = .ok (.aload_n 0, 1) := by decide +kernel
theorem dL_law_519 : decode cL_law 519 = .ok (.iload_n 3, 1) := by decide +kernel
theorem dL_law_520 : decode cL_law 520 = .ok (.iconst 4, 1) := by decide +kernel
theorem dL_law_521 : decode cL_law 521 = .ok (.iadd, 1) := by decide +kernel
theorem dL_law_522 : decode cL_law 522 = .ok (.iaload, 1) := by decide +kernel
theorem dL_law_523 : decode cL_law 523 = .ok (.invokevirtual 71, 3) := by decide +kernel
theorem dL_law_526 : decode cL_law 526 = .ok (.if_icmp .eq 421, 3) := by decide +kernel
theorem dL_law_531 : decode cL_law 531 = .ok (.aload_n 1, 1) := by decide +kernel
theorem dL_law_532 : decode cL_law 532 = .ok (.aload_n 0, 1) := by decide +kernel
theorem dL_law_533 : decode cL_law 533 = .ok (.iload_n 3, 1) := by decide +kernel
theorem dL_law_534 : decode cL_law 534 = .ok (.iconst 1, 1) := by decide +kernel
theorem dL_law_535 : decode cL_law 535 = .ok (.iadd, 1) := by decide +kernel
theorem dL_law_536 : decode cL_law 536 = .ok (.iaload, 1) := by decide +kernel
theorem dL_law_537 : decode cL_law 537 = .ok (.aload_n 0, 1) := by decide +kernel
theorem dL_law_538 : decode cL_law 538 = .ok (.iload_n 3, 1) := by decide +kernel
theorem dL_law_539 : decode cL_law 539 = .ok (.iconst 2, 1) := by decide +kernel
theorem dL_law_540 : decode cL_law 540 = .ok (.iadd, 1) := by decide +kernel
theorem dL_law_541 : decode cL_law 541 = .ok (.iaload, 1) := by decide +kernel
theorem dL_law_542 : decode cL_law 542 = .ok (.aload_n 0, 1) := by decide +kernel
theorem dL_law_543 : decode cL_law 543 = .ok (.iload_n 3, 1) := by decide +kernel
theorem dL_law_544 : decode cL_law 544 = .ok (.iconst 3, 1) := by decide +kernel
theorem dL_law_545 : decode cL_law 545 = .ok (.iadd, 1) := by decide +kernel
theorem dL_law_546 : decode cL_law 546 = .ok (.iaload, 1) := by decide +kernel
theorem dL_law_547 : decode cL_law 547 = .ok (.aload_n 0, 1) := by decide +kernel
theorem dL_law_548 : decode cL_law 548 = .ok (.iload_n 3, 1) := by decide +kernel
theorem dL_law_549 : decode cL_law 549 = .ok (.iconst 4, 1) := by decide +kernel
theorem dL_law_550 : decode cL_law 550 = .ok (.iadd, 1) := by decide +kernel
theorem dL_law_551 : decode cL_law 551 = .ok (.iaload, 1) := by decide +kernel
theorem dL_law_552 : decode cL_law 552 = .ok (.aload_n 0, 1) := by decide +kernel
theorem dL_law_553 : decode cL_law 553 = .ok (.iload_n 3, 1) := by decide +kernel
theorem dL_law_554 : decode cL_law 554 = .ok (.iconst 5, 1) := by decide +kernel
theorem dL_law_555 : decode cL_law 555 = .ok (.iadd, 1) := by decide +kernel
theorem dL_law_556 : decode cL_law 556 = .ok (.iaload, 1) := by decide +kernel
theorem dL_law_557 : decode cL_law 557 = .ok (.invokevirtual 72, 3) := by decide +kernel
theorem dL_law_560 : decode cL_law 560 = .ok (.aload_n 2, 1) := by decide +kernel
theorem dL_law_561 : decode cL_law 561 = .ok (.aload_n 0, 1) := by decide +kernel
theorem dL_law_562 : decode cL_law 562 = .ok (.iload_n 3, 1) := by decide +kernel
theorem dL_law_563 : decode cL_law 563 = .ok (.iconst 1, 1) := by decide +kernel
theorem dL_law_564 : decode cL_law 564 = .ok (.iadd, 1) := by decide +kernel
theorem dL_law_565 : decode cL_law 565 = .ok (.iaload, 1) := by decide +kernel
theorem dL_law_566 : decode cL_law 566 = .ok (.aload_n 0, 1) := by decide +kernel
theorem dL_law_567 : decode cL_law 567 = .ok (.iload_n 3, 1) := by decide +kernel
theorem dL_law_568 : decode cL_law 568 = .ok (.iconst 2, 1) := by decide +kernel
theorem dL_law_569 : decode cL_law 569 = .ok (.iadd, 1) := by decide +kernel
theorem dL_law_570 : decode cL_law 570 = .ok (.iaload, 1) := by decide +kernel
theorem dL_law_571 : decode cL_law 571 = .ok (.aload_n 0, 1) := by decide +kernel
theorem dL_law_572 : decode cL_law 572 = .ok (.iload_n 3, 1) := by decide +kernel
theorem dL_law_573 : decode cL_law 573 = .ok (.iconst 3, 1) := by decide +kernel
theorem dL_law_574 : decode cL_law 574 = .ok (.iadd, 1) := by decide +kernel
theorem dL_law_575 : decode cL_law 575 = .ok (.iaload, 1) := by decide +kernel
theorem dL_law_576 : decode cL_law 576 = .ok (.aload_n 0, 1) := by decide +kernel
theorem dL_law_577 : decode cL_law 577 = .ok (.iload_n 3, 1) := by decide +kernel
theorem dL_law_578 : decode cL_law 578 = .ok (.iconst 4, 1) := by decide +kernel
theorem dL_law_579 : decode cL_law 579 = .ok (.iadd, 1) := by decide +kernel
theorem dL_law_580 : decode cL_law 580 = .ok (.iaload, 1) := by decide +kernel
theorem dL_law_581 : decode cL_law 581 = .ok (.aload_n 0, 1) := by decide +kernel
theorem dL_law_582 : decode cL_law 582 = .ok (.iload_n 3, 1) := by decide +kernel
theorem dL_law_583 : decode cL_law 583 = .ok (.iconst 5, 1) := by decide +kernel
theorem dL_law_584 : decode cL_law 584 = .ok (.iadd, 1) := by decide +kernel
theorem dL_law_585 : decode cL_law 585 = .ok (.iaload, 1) := by decide +kernel
theorem dL_law_586 : decode cL_law 586 = .ok (.invokevirtual 75, 3) := by decide +kernel
theorem dL_law_589 : decode cL_law 589 = .ok (.if_icmp .eq 358, 3) := by decide +kernel
theorem dL_law_594 : decode cL_law 594 = .ok (.aload_n 1, 1) := by decide +kernel
theorem dL_law_595 : decode cL_law 595 = .ok (.aload_n 0, 1) := by decide +kernel
theorem dL_law_596 : decode cL_law 596 = .ok (.iload_n 3, 1) := by decide +kernel
theorem dL_law_597 : decode cL_law 597 = .ok (.iconst 1, 1) := by decide +kernel
theorem dL_law_598 : decode cL_law 598 = .ok (.iadd, 1) := by decide +kernel
theorem dL_law_599 : decode cL_law 599 = .ok (.iaload, 1) := by decide +kernel
theorem dL_law_600 : decode cL_law 600 = .ok (.aload_n 0, 1) := by decide +kernel
theorem dL_law_601 : decode cL_law 601 = .ok (.iload_n 3, 1) := by decide +kernel
theorem dL_law_602 : decode cL_law 602 = .ok (.iconst 2, 1) := by decide +kernel
theorem dL_law_603 : decode cL_law 603 = .ok (.iadd, 1) := by decide +kernel
theorem dL_law_604 : decode cL_law 604 = .ok (.iaload, 1) := by decide +kernel
theorem dL_law_605 : decode cL_law 605 = .ok (.invokevirtual 76, 3) := by decide +kernel
theorem dL_law_608 : decode cL_law 608 = .ok (.aload_n 2, 1) := by decide +kernel
theorem dL_law_609 : decode cL_law 609 = .ok (.aload_n 0, 1) := by decide +kernel
theorem dL_law_610 : decode cL_law 610 = .ok (.iload_n 3, 1) := by decide +kernel
theorem dL_law_611 : decode cL_law 611 = .ok (.iconst 1, 1) := by decide +kernel
theorem dL_law_612 : decode cL_law 612 = .ok (.iadd, 1) := by decide +kernel
theorem dL_law_613 : decode cL_law 613 = .ok (.iaload, 1) := by decide +kernel
theorem dL_law_614 : decode cL_law 614 = .ok (.aload_n 0, 1) := by decide +kernel
theorem dL_law_615 : decode cL_law 615 = .ok (.iload_n 3, 1) := by decide +kernel
theorem dL_law_616 : decode cL_law 616 = .ok (.iconst 2, 1) := by decide +kernel
theorem dL_law_617 : decode cL_law 617 = .ok (.iadd, 1) := by decide +kernel
theorem dL_law_618 : decode cL_law 618 = .ok (.iaload, 1) := by decide +kernel
theorem dL_law_619 : decode cL_law 619 = .ok (.invokevirtual 79, 3) := by decide +kernel
theorem dL_law_622 : decode cL_law 622 = .ok (.if_icmp .eq 325, 3) := by decide +kernel
theorem dL_law_627 : decode cL_law 627 = .ok (.aload_n 1, 1) := by decide +kernel
theorem dL_law_628 : decode cL_law 628 = .ok (.aload_n 0, 1) := by decide +kernel
theorem dL_law_629 : decode cL_law 629 = .ok (.iload_n 3, 1) := by decide +kernel
theorem dL_law_630 : decode cL_law 630 = .ok (.iconst 1, 1) := by decide +kernel
theorem dL_law_631 : decode cL_law 631 = .ok (.iadd, 1) := by decide +kernel
theorem dL_law_632 : decode cL_law 632 = .ok (.iaload, 1) := by decide +kernel
theorem dL_law_633 : decode cL_law 633 = .ok (.aload_n 0, 1) := by decide +kernel
theorem dL_law_634 : decode cL_law 634 = .ok (.iload_n 3, 1) := by decide +kernel
theorem dL_law_635 : decode cL_law 635 = .ok (.iconst 2, 1) := by decide +kernel
theorem dL_law_636 : decode cL_law 636 = .ok (.iadd, 1) := by decide +kernel
theorem dL_law_637 : decode cL_law 637 = .ok (.iaload, 1) := by decide +kernel
theorem dL_law_638 : decode cL_law 638 = .ok (.aload_n 0, 1) := by decide +kernel
theorem dL_law_639 : decode cL_law 639 = .ok (.iload_n 3, 1) := by decide +kernel
theorem dL_law_640 : decode cL_law 640 = .ok (.iconst 3, 1) := by decide +kernel
theorem dL_law_641 : decode cL_law 641 = .ok (.iadd, 1) := by decide +kernel
theorem dL_law_642 : decode cL_law 642 = .ok (.iaload, 1) := by decide +kernel
theorem dL_law_643 : decode cL_law 643 = .ok (.invokevirtual 80, 3) := by decide +kernel
theorem dL_law_646 : decode cL_law 646 = .ok (.aload_n 2, 1) := by decide +kernel
theorem dL_law_647 : decode cL_law 647 = .ok (.aload_n 0, 1) := by decide +kernel
theorem dL_law_648 : decode cL_law 648 = .ok (.iload_n 3, 1) := by decide +kernel
theorem dL_law_649 : decode cL_law 649 = .ok (.iconst 1, 1) := by decide +kernel
theorem dL_law_650 : decode cL_law 650 = .ok (.iadd, 1) := by decide +kernel
theorem dL_law_651 : decode cL_law 651 = .ok (.iaload, 1) := by decide +kernel
theorem dL_law_652 : decode cL_law 652 = .ok (.aload_n 0, 1) := by decide +kernel
theorem dL_law_653 : decode cL_law 653 = .ok (.iload_n 3, 1) := by decide +kernel
theorem dL_law_654 : decode cL_law 654 = .ok (.iconst 2, 1) := by decide +kernel
theorem dL_law_655 : decode cL_law 655 = .ok (.iadd, 1) := by decide +kernel
theorem dL_law_656 : decode cL_law 656 = .ok (.iaload, 1) := by decide +kernel
theorem dL_law_657 : decode cL_law 657 = .ok (.aload_n 0, 1) := by decide +kernel
theorem dL_law_658 : decode cL_law 658 = .ok (.iload_n 3, 1) := by decide +kernel
theorem dL_law_659 : decode cL_law 659 = .ok (.iconst 3, 1) := by decide +kernel
theorem dL_law_660 : decode cL_law 660 = .ok (.iadd, 1) := by decide +kernel
theorem dL_law_661 : decode cL_law 661 = .ok (.iaload, 1) := by decide +kernel
theorem dL_law_662 : decode cL_law 662 = .ok (.invokevirtual 83, 3) := by decide +kernel
theorem dL_law_665 : decode cL_law 665 = .ok (.if_icmp .eq 282, 3) := by decide +kernel
theorem dL_law_670 : decode cL_law 670 = .ok (.aload_n 1, 1) := by decide +kernel
theorem dL_law_671 : decode cL_law 671 = .ok (.aload_n 0, 1) := by decide +kernel
theorem dL_law_672 : decode cL_law 672 = .ok (.iload_n 3, 1) := by decide +kernel
theorem dL_law_673 : decode cL_law 673 = .ok (.iconst 1, 1) := by decide +kernel
theorem dL_law_674 : decode cL_law 674 = .ok (.iadd, 1) := by decide +kernel
theorem dL_law_675 : decode cL_law 675 = .ok (.iaload, 1) := by decide +kernel
theorem dL_law_676 : decode cL_law 676 = .ok (.aload_n 0, 1) := by decide +kernel
theorem dL_law_677 : decode cL_law 677 = .ok (.iload_n 3, 1) := by decide +kernel
theorem dL_law_678 : decode cL_law 678 = .ok (.iconst 2, 1) := by decide +kernel
theorem dL_law_679 : decode cL_law 679 = .ok (.iadd, 1) := by decide +kernel
theorem dL_law_680 : decode cL_law 680 = .ok (.iaload, 1) := by decide +kernel
theorem dL_law_681 : decode cL_law 681 = .ok (.aload_n 0, 1) := by decide +kernel
theorem dL_law_682 : decode cL_law 682 = .ok (.iload_n 3, 1) := by decide +kernel
theorem dL_law_683 : decode cL_law 683 = .ok (.iconst 3, 1) := by decide +kernel
theorem dL_law_684 : decode cL_law 684 = .ok (.iadd, 1) := by decide +kernel
theorem dL_law_685 : decode cL_law 685 = .ok (.iaload, 1) := by decide +kernel
theorem dL_law_686 : decode cL_law 686 = .ok (.invokevirtual 84, 3) := by decide +kernel
theorem dL_law_689 : decode cL_law 689 = .ok (.aload_n 2, 1) := by decide +kernel
theorem dL_law_690 : decode cL_law 690 = .ok (.aload_n 0, 1) := by decide +kernel
theorem dL_law_691 : decode cL_law 691 = .ok (.iload_n 3, 1) := by decide +kernel
theorem dL_law_692 : decode cL_law 692 = .ok (.iconst 1, 1) := by decide +kernel
theorem dL_law_693 : decode cL_law 693 = .ok (.iadd, 1) := by decide +kernel
theorem dL_law_694 : decode cL_law 694 = .ok (.iaload, 1) := by decide +kernel
theorem dL_law_695 : decode cL_law 695 = .ok (.aload_n 0, 1) := by decide +kernel
theorem dL_law_696 : decode cL_law 696 = .ok (.iload_n 3, 1) := by decide +kernel
theorem dL_law_697 : decode cL_law 697 = .ok (.iconst 2, 1) := by decide +kernel
theorem dL_law_698 : decode cL_law 698 = .ok (.iadd, 1) := by decide +kernel
theorem dL_law_699 : decode cL_law 699 = .ok (.iaload, 1) := by decide +kernel
theorem dL_law_700 : decode cL_law 700 = .ok (.aload_n 0, 1) := by decide +kernel
theorem dL_law_701 : decode cL_law 701 = .ok (.iload_n 3, 1) := by decide +kernel
theorem dL_law_702 : decode cL_law 702 = .ok (.iconst 3, 1) := by decide +kernel
theorem dL_law_703 : decode cL_law 703 = .ok (.iadd, 1) := by decide +kernel
theorem dL_law_704 : decode cL_law 704 = .ok (.iaload, 1) := by decide +kernel
theorem dL_law_705 : decode cL_law 705 = .ok (.invokevirtual 87, 3) := by decide +kernel
theorem dL_law_708 : decode cL_law 708 = .ok (.if_icmp .eq 239, 3) := by decide +kernel
theorem dL_law_713 : decode cL_law 713 = .ok (.aload_n 1, 1) := by decide +kernel
theorem dL_law_714 : decode cL_law 714 = .ok (.invokevirtual 88, 3) := by decide +kernel
theorem dL_law_717 : decode cL_law 717 = .ok (.aload_n 2, 1) := by decide +kernel
theorem dL_law_718 : decode cL_law 718 = .ok (.invokevirtual 91, 3) := by decide +kernel
theorem dL_law_721 : decode cL_law 721 = .ok (.if_icmp .eq 226, 3) := by decide +kernel
theorem dL_law_726 : decode cL_law 726 = .ok (.aload_n 1, 1) := by decide +kernel
theorem dL_law_727 : decode cL_law 727 = .ok (.aload_n 0, 1) := by decide +kernel
theorem dL_law_728 : decode cL_law 728 = .ok (.iload_n 3, 1) := by decide +kernel
theorem dL_law_729 : decode cL_law 729 = .ok (.iconst 1, 1) := by decide +kernel
theorem dL_law_730 : decode cL_law 730 = .ok (.iadd, 1) := by decide +kernel
theorem dL_law_731 : decode cL_law 731 = .ok (.iaload, 1) := by decide +kernel
theorem dL_law_732 : decode cL_law 732 = .ok (.aload_n 0, 1) := by decide +kernel
theorem dL_law_733 : decode cL_law 733 = .ok (.iload_n 3, 1) := by decide +kernel
theorem dL_law_734 : decode cL_law 734 = .ok (.iconst 2, 1) := by decide +kernel
theorem dL_law_735 : decode cL_law 735 = .ok (.iadd, 1) := by decide +kernel
theorem dL_law_736 : decode cL_law 736 = .ok (.iaload, 1) := by decide +kernel
theorem dL_law_737 : decode cL_law 737 = .ok (.invokevirtual 92, 3) := by decide +kernel
theorem dL_law_740 : decode cL_law 740 = .ok (.aload_n 2, 1) := by decide +kernel
theorem dL_law_741 : decode cL_law 741 = .ok (.aload_n 0, 1) := by decide +kernel
theorem dL_law_742 : decode cL_law 742 = .ok (.iload_n 3, 1) := by decide +kernel
theorem dL_law_743 : decode cL_law 743 = .ok (.iconst 1, 1) := by decide +kernel
theorem dL_law_744 : decode cL_law 744 = .ok (.iadd, 1) := by decide +kernel
theorem dL_law_745 : decode cL_law 745 = .ok (.iaload, 1) := by decide +kernel
theorem dL_law_746 : decode cL_law 746 = .ok (.aload_n 0, 1) := by decide +kernel
theorem dL_law_747 : decode cL_law 747 = .ok (.iload_n 3, 1) := by decide +kernel
theorem dL_law_748 : decode cL_law 748 = .ok (.iconst 2, 1) := by decide +kernel
theorem dL_law_749 : decode cL_law 749 = .ok (.iadd, 1) := by decide +kernel
theorem dL_law_750 : decode cL_law 750 = .ok (.iaload, 1) := by decide +kernel
theorem dL_law_751 : decode cL_law 751 = .ok (.invokevirtual 95, 3) := by decide +kernel
theorem dL_law_754 : decode cL_law 754 = .ok (.if_icmp .eq 193, 3) := by decide +kernel
theorem dL_law_759 : decode cL_law 759 = .ok (.aload_n 1, 1) := by decide +kernel
theorem dL_law_760 : decode cL_law 760 = .ok (.aload_n 0, 1) := by decide +kernel
theorem dL_law_761 : decode cL_law 761 = .ok (.iload_n 3, 1) := by decide +kernel
theorem dL_law_762 : decode cL_law 762 = .ok (.iconst 1, 1) := by decide +kernel
theorem dL_law_763 : decode cL_law 763 = .ok (.iadd, 1) := by decide +kernel
theorem dL_law_764 : decode cL_law 764 = .ok (.iaload, 1) := by decide +kernel
theorem dL_law_765 : decode cL_law 765 = .ok (.aload_n 0, 1) := by decide +kernel
theorem dL_law_766 : decode cL_law 766 = .ok (.iload_n 3, 1) := by decide +kernel
theorem dL_law_767 : decode cL_law 767 = .ok (.iconst 2, 1) := by decide +kernel
theorem dL_law_768 : decode cL_law 768 = .ok (.iadd, 1) := by decide +kernel
theorem dL_law_769 : decode cL_law 769 = .ok (.iaload, 1) := by decide +kernel
theorem dL_law_770 : decode cL_law 770 = .ok (.invokevirtual 96, 3) := by decide +kernel
theorem dL_law_773 : decode cL_law 773 = .ok (.aload_n 2, 1) := by decide +kernel
theorem dL_law_774 : decode cL_law 774 = .ok (.aload_n 0, 1) := by decide +kernel
theorem dL_law_775 : decode cL_law 775 = .ok (.iload_n 3, 1) := by decide +kernel
theorem dL_law_776 : decode cL_law 776 = .ok (.iconst 1, 1) := by decide +kernel
theorem dL_law_777 : decode cL_law 777 = .ok (.iadd, 1) := by decide +kernel
theorem dL_law_778 : decode cL_law 778 = .ok (.iaload, 1) := by decide +kernel
theorem dL_law_779 : decode cL_law 779 = .ok (.aload_n 0, 1) := by decide +kernel
theorem dL_law_780 : decode cL_law 780 = .ok (.iload_n 3, 1) := by decide +kernel
theorem dL_law_781 : decode cL_law 781 = .ok (.iconst 2, 1) := by decide +kernel
theorem dL_law_782 : decode cL_law 782 = .ok (.iadd, 1) := by decide +kernel
theorem dL_law_783 : decode cL_law 783 = .ok (.iaload, 1) := by decide +kernel
theorem dL_law_784 : decode cL_law 784 = .ok (.invokevirtual 99, 3) := by decide +kernel
theorem dL_law_787 : decode cL_law 787 = .ok (.if_icmp .eq 160, 3) := by decide +kernel
theorem dL_law_792 : decode cL_law 792 = .ok (.aload_n 1, 1) := by decide +kernel
theorem dL_law_793 : decode cL_law 793 = .ok (.aload_n 0, 1) := by decide +kernel
theorem dL_law_794 : decode cL_law 794 = .ok (.iload_n 3, 1) := by decide +kernel
theorem dL_law_795 : decode cL_law 795 = .ok (.iconst 1, 1) := by decide +kernel
theorem dL_law_796 : decode cL_law 796 = .ok (.iadd, 1) := by decide +kernel
theorem dL_law_797 : decode cL_law 797 = .ok (.iaload, 1) := by decide +kernel
theorem dL_law_798 : decode cL_law 798 = .ok (.invokevirtual 100, 3) := by decide +kernel
theorem dL_law_801 : decode cL_law 801 = .ok (.aload_n 2, 1) := by decide +kernel
theorem dL_law_802 : decode cL_law 802 = .ok (.aload_n 0, 1) := by decide +kernel
theorem dL_law_803 : decode cL_law 803 = .ok (.iload_n 3, 1) := by decide +kernel
theorem dL_law_804 : decode cL_law 804 = .ok (.iconst 1, 1) := by decide +kernel
theorem dL_law_805 : decode cL_law 805 = .ok (.iadd, 1) := by decide +kernel
theorem dL_law_806 : decode cL_law 806 = .ok (.iaload, 1) := by decide +kernel
theorem dL_law_807 : decode cL_law 807 = .ok (.invokevirtual 103, 3) := by decide +kernel
theorem dL_law_810 : decode cL_law 810 = .ok (.if_icmp .eq 137, 3) := by decide +kernel
theorem dL_law_815 : decode cL_law 815 = .ok (.aload_n 1, 1) := by decide +kernel
theorem dL_law_816 : decode cL_law 816 = .ok (.aload_n 0, 1) := by decide +kernel
theorem dL_law_817 : decode cL_law 817 = .ok (.iload_n 3, 1) := by decide +kernel
theorem dL_law_818 : decode cL_law 818 = .ok (.iconst 1, 1) := by decide +kernel
theorem dL_law_819 : decode cL_law 819 = .ok (.iadd, 1) := by decide +kernel
theorem dL_law_820 : decode cL_law 820 = .ok (.iaload, 1) := by decide +kernel
theorem dL_law_821 : decode cL_law 821 = .ok (.aload_n 0, 1) := by decide +kernel
theorem dL_law_822 : decode cL_law 822 = .ok (.iload_n 3, 1) := by decide +kernel
theorem dL_law_823 : decode cL_law 823 = .ok (.iconst 2, 1) := by decide +kernel
theorem dL_law_824 : decode cL_law 824 = .ok (.iadd, 1) := by decide +kernel
theorem dL_law_825 : decode cL_law 825 = .ok (.iaload, 1) := by decide +kernel
theorem dL_law_826 : decode cL_law 826 = .ok (.invokevirtual 104, 3) := by decide +kernel
theorem dL_law_829 : decode cL_law 829 = .ok (.aload_n 2, 1) := by decide +kernel
theorem dL_law_830 : decode cL_law 830 = .ok (.aload_n 0, 1) := by decide +kernel
theorem dL_law_831 : decode cL_law 831 = .ok (.iload_n 3, 1) := by decide +kernel
theorem dL_law_832 : decode cL_law 832 = .ok (.iconst 1, 1) := by decide +kernel
theorem dL_law_833 : decode cL_law 833 = .ok (.iadd, 1) := by decide +kernel
theorem dL_law_834 : decode cL_law 834 = .ok (.iaload, 1) := by decide +kernel
theorem dL_law_835 : decode cL_law 835 = .ok (.aload_n 0, 1) := by decide +kernel
theorem dL_law_836 : decode cL_law 836 = .ok (.iload_n 3, 1) := by decide +kernel
theorem dL_law_837 : decode cL_law 837 = .ok (.iconst 2, 1) := by decide +kernel
theorem dL_law_838 : decode cL_law 838 = .ok (.iadd, 1) := by decide +kernel
theorem dL_law_839 : decode cL_law 839 = .ok (.iaload, 1) := by decide +kernel
theorem dL_law_840 : decode cL_law 840 = .ok (.invokevirtual 107, 3) := by decide +kernel
theorem dL_law_843 : decode cL_law 843 = .ok (.if_icmp .eq 104, 3) := by decide +kernel
theorem dL_law_848 : decode cL_law 848 = .ok (.aload_n 1, 1) := by decide +kernel
theorem dL_law_849 : decode cL_law 849 = .ok (.aload_n 0, 1) := by decide +kernel
theorem dL_law_850 : decode cL_law 850 = .ok (.iload_n 3, 1) := by decide +kernel
theorem dL_law_851 : decode cL_law 851 = .ok (.iconst 1, 1) := by decide +kernel
theorem dL_law_852 : decode cL_law 852 = .ok (.iadd, 1) := by decide +kernel
theorem dL_law_853 : decode cL_law 853 = .ok (.iaload, 1) := by decide +kernel
theorem dL_law_854 : decode cL_law 854 = .ok (.aload_n 0, 1) := by decide +kernel
theorem dL_law_855 : decode cL_law 855 = .ok (.iload_n 3, 1) := by decide +kernel
theorem dL_law_856 : decode cL_law 856 = .ok (.iconst 2, 1) := by decide +kernel
theorem dL_law_857 : decode cL_law 857 = .ok (.iadd, 1) := by decide +kernel
theorem dL_law_858 : decode cL_law 858 = .ok (.iaload, 1) := by decide +kernel
theorem dL_law_859 : decode cL_law 859 = .ok (.aload_n 0, 1) := by decide +kernel
theorem dL_law_860 : decode cL_law 860 = .ok (.iload_n 3, 1) := by decide +kernel
theorem dL_law_861 : decode cL_law 861 = .ok (.iconst 3, 1) := by decide +kernel
theorem dL_law_862 : decode cL_law 862 = .ok (.iadd, 1) := by decide +kernel
theorem dL_law_863 : decode cL_law 863 = .ok (.iaload, 1) := by decide +kernel
theorem dL_law_864 : decode cL_law 864 = .ok (.invokevirtual 108, 3) := by decide +kernel
theorem dL_law_867 : decode cL_law 867 = .ok (.aload_n 2, 1) := by decide +kernel
theorem dL_law_868 : decode cL_law 868 = .ok (.aload_n 0, 1) := by decide +kernel
theorem dL_law_869 : decode cL_law 869 = .ok (.iload_n 3, 1) := by decide +kernel
theorem dL_law_870 : decode cL_law 870 = .ok (.iconst 1, 1) := by decide +kernel
theorem dL_law_871 : decode cL_law 871 = .ok (.iadd, 1) := by decide +kernel
theorem dL_law_872 : decode cL_law 872 = .ok (.iaload, 1) := by decide +kernel
theorem dL_law_873 : decode cL_law 873 = .ok (.aload_n 0, 1) := by decide +kernel
theorem dL_law_874 : decode cL_law 874 = .ok (.iload_n 3, 1) := by decide +kernel
theorem dL_law_875 : decode cL_law 875 = .ok (.iconst 2, 1) := by decide +kernel
theorem dL_law_876 : decode cL_law 876 = .ok (.iadd, 1) := by decide +kernel
theorem dL_law_877 : decode cL_law 877 = .ok (.iaload, 1) := by decide +kernel
theorem dL_law_878 : decode cL_law 878 = .ok (.aload_n 0, 1) := by decide +kernel
theorem dL_law_879 : decode cL_law 879 = .ok (.iload_n 3, 1) := by decide +kernel
theorem dL_law_880 : decode cL_law 880 = .ok (.iconst 3, 1) := by decide +kernel
theorem dL_law_881 : decode cL_law 881 = .ok (.iadd, 1) := by decide +kernel
theorem dL_law_882 : decode cL_law 882 = .ok (.iaload, 1) := by decide +kernel
theorem dL_law_883 : decode cL_law 883 = .ok (.invokevirtual 111, 3) := by decide +kernel
theorem dL_law_886 : decode cL_law 886 = .ok (.if_icmp .eq 61, 3) := by decide +kernel
theorem dL_law_891 : decode cL_law 891 = .ok (.aload_n 1, 1) := by decide +kernel
theorem dL_law_892 : decode cL_law 892 = .ok (.aload_n 0, 1) := by decide +kernel
theorem dL_law_893 : decode cL_law 893 = .ok (.iload_n 3, 1) := by decide +kernel
theorem dL_law_894 : decode cL_law 894 = .ok (.iconst 1, 1) := by decide +kernel
theorem dL_law_895 : decode cL_law 895 = .ok (.iadd, 1) := by decide +kernel
theorem dL_law_896 : decode cL_law 896 = .ok (.iaload, 1) := by decide +kernel
theorem dL_law_897 : decode cL_law 897 = .ok (.aload_n 0, 1) := by decide +kernel
theorem dL_law_898 : decode cL_law 898 = .ok (.iload_n 3, 1) := by decide +kernel
theorem dL_law_899 : decode cL_law 899 = .ok (.iconst 2, 1) := by decide +kernel
theorem dL_law_900 : decode cL_law 900 = .ok (.iadd, 1) := by decide +kernel
theorem dL_law_901 : decode cL_law 901 = .ok (.iaload, 1) := by decide +kernel
theorem dL_law_902 : decode cL_law 902 = .ok (.invokevirtual 112, 3) := by decide +kernel
theorem dL_law_905 : decode cL_law 905 = .ok (.aload_n 2, 1) := by decide +kernel
theorem dL_law_906 : decode cL_law 906 = .ok (.aload_n 0, 1) := by decide +kernel
theorem dL_law_907 : decode cL_law 907 = .ok (.iload_n 3, 1) := by decide +kernel
theorem dL_law_908 : decode cL_law 908 = .ok (.iconst 1, 1) := by decide +kernel
theorem dL_law_909 : decode cL_law 909 = .ok (.iadd, 1) := by decide +kernel
theorem dL_law_910 : decode cL_law 910 = .ok (.iaload, 1) := by decide +kernel
theorem dL_law_911 : decode cL_law 911 = .ok (.aload_n 0, 1) := by decide +kernel
theorem dL_law_912 : decode cL_law 912 = .ok (.iload_n 3, 1) := by decide +kernel
theorem dL_law_913 : decode cL_law 913 = .ok (.iconst 2, 1) := by decide +kernel
theorem dL_law_914 : decode cL_law 914 = .ok (.iadd, 1) := by decide +kernel
theorem dL_law_915 : decode cL_law 915 = .ok (.iaload, 1) := by decide +kernel
theorem dL_law_916 : decode cL_law 916 = .ok (.invokevirtual 115, 3) := by decide +kernel
theorem dL_law_919 : decode cL_law 919 = .ok (.if_icmp .eq 28, 3) := by decide +kernel
theorem dL_law_924 : decode cL_law 924 = .ok (.aload_n 1, 1) := by decide +kernel
theorem dL_law_925 : decode cL_law 925 = .ok (.aload_n 0, 1) := by decide +kernel
theorem dL_law_926 : decode cL_law 926 = .ok (.iload_n 3, 1) := by decide +kernel
theorem dL_law_927 : decode cL_law 927 = .ok (.iconst 1, 1) := by decide +kernel
theorem dL_law_928 : decode cL_law 928 = .ok (.iadd, 1) := by decide +kernel
theorem dL_law_929 : decode cL_law 929 = .ok (.iaload, 1) := by decide +kernel
theorem dL_law_930 : decode cL_law 930 = .ok (.invokevirtual 116, 3) := by decide +kernel
theorem dL_law_933 : decode cL_law 933 = .ok (.aload_n 2, 1) := by decide +kernel
theorem dL_law_934 : decode cL_law 934 = .ok (.aload_n 0, 1) := by decide +kernel
theorem dL_law_935 : decode cL_law 935 = .ok (.iload_n 3, 1) := by decide +kernel
theorem dL_law_936 : decode cL_law 936 = .ok (.iconst 1, 1) := by decide +kernel
theorem dL_law_937 : decode cL_law 937 = .ok (.iadd, 1) := by decide +kernel
theorem dL_law_938 : decode cL_law 938 = .ok (.iaload, 1) := by decide +kernel
theorem dL_law_939 : decode cL_law 939 = .ok (.invokevirtual 119, 3) := by decide +kernel
theorem dL_law_942 : decode cL_law 942 = .ok (.if_icmp .eq 5, 3) := by decide +kernel
set_option maxRecDepth 20000 in
theorem ggL_law_X10_feed : GoodIn wsL_law wsX10_feed := goodIn_r _ [170, 27, 171, 172, 173, 26, 174, 175, 59, 176, 177, 178, 179, 1100, 1101, 1102, 1103, 1104, 1105, 1106, 1107, 1155, 1156] (by decide +kernel) (by decide +kernel)
set_option maxRecDepth 20000 in
theorem gL_law_X10_feed : GoodIn wsL_law (wsV RL 21 RX10 yX10_feed wsX10_feed) := goodIn_app (goodIn_of _ (by decide +kernel)) ggL_law_X10_feed
set_option maxRecDepth 20000 in
theorem ggL_law_X11_feed : GoodIn wsL_law wsX11_feed := goodIn_r _ [183, 184, 185, 186, 187, 5, 188, 141, 1108, 1109, 1110, 1111, 1112, 1113, 1114, 1115, 1116, 1117, 1118, 1119, 1120, 1121, 1122, 1123, 1124, 1125, 1126, 1127, 1128, 1129, 1130, 1131, 1132, 1133, 1134, 1135, 1136, 1137, 1138, 1139, 1140, 1141, 1142, 1143, 1144, 1145, 1146, 1147, 1148, 1149, 1150, 1151, 1152, 1153, 1154] (by decide +kernel) (by decide +kernel)
set_option maxRecDepth 20000 in
theorem gL_law_X11_feed : GoodIn wsL_law (wsV RL 25 RX11 yX11_feed wsX11_feed) := goodIn_app (goodIn_of _ (by decide +kernel)) ggL_law_X11_feed
set_option maxRecDepth 20000 in
theorem ggL_law_X10_end : GoodIn wsL_law wsX10_end := goodIn_r _ [192, 27, 1100, 1101, 1102, 1103, 1104, 1105, 1106, 1107, 1155, 1156] (by decide +kernel) (by decide +kernel)
set_option maxRecDepth 20000 in
theorem gL_law_X10_end : GoodIn wsL_law (wsV RL 26 RX10 yX10_end wsX10_end) := goodIn_app (goodIn_of _ (by decide +kernel)) ggL_law_X10_end
set_option maxRecDepth 20000 in
theorem ggL_law_X11_end : GoodIn wsL_law wsX11_end := goodIn_r _ [196, 184, 197, 198, 5, 199, 1108, 1109, 1110, 1111, 1112, 1113, 1114, 1115, 1116, 1117, 1118, 1119, 1120, 1121, 1122, 1123, 1124, 1125, 1126, 1127, 1128, 1129, 1130, 1131, 1132, 1133, 1134, 1135, 1136, 1137, 1138, 1139, 1140, 1141, 1142, 1143, 1144, 1145, 1146, 1147, 1148, 1149, 1150, 1151, 1152, 1153, 1154] (by decide +kernel) (by decide +kernel)
set_option maxRecDepth 20000 in
theorem gL_law_X11_end : GoodIn wsL_law (wsV RL 30 RX11 yX11_end wsX11_end) := goodIn_app (goodIn_of _ (by decide +kernel)) ggL_law_X11_end
set_option maxRecDepth 20000 in
theorem ggL_law_X10_text : GoodIn wsL_law wsX10_text := goodIn_r _ [203, 31, 38, 27, 204, 205, 206, 30, 207, 208, 209, 210, 211, 34, 212, 87, 88, 86, 82, 90, 213, 214, 215, 37, 216, 217, 74, 218, 219, 220, 221, 222, 26, 223, 175, 59, 224, 225, 226, 227, 228, 229, 230, 231, 232, 233, 234, 235, 236, 237, 238, 239, 240, 241, 242, 243, 244, 245, 246, 247, 248, 249, 250, 251, 252, 253, 254, 255, 256, 257, 258, 259, 260, 261, 262, 263, 264, 265, 266, 267, 268, 269, 270, 271, 272, 273, 274, 275, 276, 277, 278, 279, 280, 281, 282, 283, 284, 285, 286, 287, 71, 72, 73, 288, 289, 290, 291, 292, 293, 294, 295, 296, 297, 298, 299, 300, 301, 302, 303, 21, 18, 22, 304, 17, 19, 305, 306, 307, 308, 309, 310, 311, 312, 313, 314, 315, 316, 317, 318, 319, 320, 321, 322, 323, 324, 325, 326, 327, 328, 329, 330, 331, 332, 333, 334, 335, 336, 337, 338, 339, 340, 341, 342, 343, 344, 345, 346, 347, 348, 349, 350, 351, 352, 353, 354, 355, 356, 357, 80, 358, 359, 360, 361, 362, 363, 364, 365, 366, 367, 368, 369, 370, 371, 372, 373, 374, 89, 375, 376, 377, 378, 379, 380, 381, 382, 383, 384, 93, 385, 386, 106, 107, 387, 388, 389, 390, 391, 392, 393, 394, 395, 91, 396, 397, 398, 399, 400, 401, 402, 403, 64, 404, 405, 406, 407, 408, 409, 410, 411, 94, 412, 413, 414, 415, 416, 104, 417, 418, 419, 420, 421, 422, 423, 424, 425, 426, 427, 428, 429, 430, 431, 432, 81, 433, 434, 435, 436, 95, 437, 438, 439, 440, 441, 442, 443, 444, 445, 446, 447, 448, 449, 450, 451, 452, 453, 454, 455, 456, 457, 458, 459, 460, 461, 462, 463, 464, 465, 466, 467, 468, 469, 470, 471, 472, 473, 474, 105, 475, 476, 477, 478, 479, 480, 481, 482, 483, 484, 485, 486, 487, 488, 489, 490, 491, 492, 493, 494, 495, 496, 497, 498, 85, 499, 500, 99, 501, 502, 503, 504, 505, 506, 507, 508, 66, 509, 510, 511, 512, 513, 514, 515, 92, 516, 101, 102, 103, 14, 15, 58, 517, 518, 519, 520, 521, 522, 523, 524, 525, 526, 84, 527, 96, 97, 98, 528, 529, 530, 531, 532, 1100, 1101, 1102, 1103, 1104, 1105, 1106, 1107, 1155, 1156, 1157, 1158, 1159, 1160, 1161, 1162, 1163, 1164, 1165, 1166, 1167, 1168, 1169, 1170, 1171, 1200, 1201, 1202, 1203, 1204, 1205, 1172, 1173, 1174, 1175, 1176, 1177, 1178, 1179, 1180, 1181] (by decide +kernel) (by decide +kernel)
set_option maxRecDepth 20000 in
theorem gL_law_X10_text : GoodIn wsL_law (wsV RL 31 RX10 yX10_text wsX10_text) := goodIn_app (goodIn_of _ (by decide +kernel)) ggL_law_X10_text
set_option maxRecDepth 20000 in
theorem ggL_law_X11_text : GoodIn wsL_law wsX11_text := goodIn_r _ [536, 537, 142, 538, 143, 184, 539, 139, 149, 150, 140, 151, 540, 541, 542, 5, 543, 544, 545, 546, 547, 548, 549, 550, 551, 552, 553, 554, 555, 141, 556, 557, 558, 197, 198, 199, 559, 560, 561, 562, 563, 564, 565, 566, 567, 568, 569, 570, 571, 572, 573, 574, 144, 575, 576, 577, 578, 579, 580, 581, 582, 583, 147, 584, 585, 586, 587, 588, 589, 590, 591, 592, 593, 594, 595, 596, 145, 146, 597, 598, 599, 600, 166, 601, 602, 603, 604, 148, 605, 606, 607, 608, 609, 610, 611, 612, 613, 614, 615, 616, 617, 618, 619, 620, 621, 622, 623, 624, 625, 626, 627, 628, 629, 630, 631, 632, 633, 634, 635, 636, 637, 638, 639, 640, 641, 642, 643, 644, 645, 646, 647, 648, 649, 650, 651, 152, 1108, 1109, 1110, 1111, 1112, 1113, 1114, 1115, 1116, 1117, 1118, 1119, 1120, 1121, 1122, 1123, 1124, 1125, 1126, 1127, 1128, 1129, 1130, 1131, 1132, 1133, 1134, 1135, 1136, 1137, 1138, 1139, 1140, 1141, 1142, 1143, 1144, 1145, 1146, 1147, 1148, 1149, 1150, 1151, 1152, 1153, 1154] (by decide +kernel) (by decide +kernel)
set_option maxRecDepth 20000 in
theorem gL_law_X11_text : GoodIn wsL_law (wsV RL 35 RX11 yX11_text wsX11_text) := goodIn_app (goodIn_of _ (by decide +kernel)) ggL_law_X11_text
set_option maxRecDepth 20000 in
theorem ggL_law_X10_fault : GoodIn wsL_law wsX10_fault := goodIn_r _ [655, 38, 1100, 1101, 1102, 1103, 1104, 1105, 1106, 1107, 1161, 1162, 1163, 1164, 1165, 1166, 1167, 1168, 1169, 1170, 1171] (by decide +kernel) (by decide +kernel)
set_option maxRecDepth 20000 in
theorem gL_law_X10_fault : GoodIn wsL_law (wsV RL 36 RX10 yX10_fault wsX10_fault) := goodIn_app (goodIn_of _ (by decide +kernel)) ggL_law_X10_fault
set_option maxRecDepth 20000 in
theorem ggL_law_X11_fault : GoodIn wsL_law wsX11_fault := goodIn_r _ [659, 142, 143, 1108, 1109, 1110, 1111, 1112, 1113, 1114, 1115, 1116, 1117, 1118, 1119, 1120, 1121, 1122, 1123, 1124, 1125, 1126, 1127, 1128, 1129, 1130, 1131, 1132, 1133, 1134, 1135, 1136, 1137, 1138, 1139, 1140, 1141, 1142, 1143, 1144, 1145, 1146, 1147, 1148, 1149, 1150, 1151, 1152, 1153, 1154] (by decide +kernel) (by decide +kernel)
set_option maxRecDepth 20000 in
theorem gL_law_X11_fault : GoodIn wsL_law (wsV RL 39 RX11 yX11_fault wsX11_fault) := goodIn_app (goodIn_of _ (by decide +kernel)) ggL_law_X11_fault
set_option maxRecDepth 20000 in
theorem ggL_law_X10_look : GoodIn wsL_law wsX10_look := goodIn_r _ [663, 31, 1100, 1101, 1102, 1103, 1104, 1105, 1106, 1107, 1157, 1158, 1159, 1160] (by decide +kernel) (by decide +kernel)
set_option maxRecDepth 20000 in
theorem gL_law_X10_look : GoodIn wsL_law (wsV RL 40 RX10 yX10_look wsX10_look) := goodIn_app (goodIn_of _ (by decide +kernel)) ggL_law_X10_look
set_option maxRecDepth 20000 in
theorem ggL_law_X11_look : GoodIn wsL_law wsX11_look := goodIn_r _ [667, 537, 539, 197, 198, 5, 199, 1108, 1109, 1110, 1111, 1112, 1113, 1114, 1115, 1116, 1117, 1118, 1119, 1120, 1121, 1122, 1123, 1124, 1125, 1126, 1127, 1128, 1129, 1130, 1131, 1132, 1133, 1134, 1135, 1136, 1137, 1138, 1139, 1140, 1141, 1142, 1143, 1144, 1145, 1146, 1147, 1148, 1149, 1150, 1151, 1152, 1153, 1154] (by decide +kernel) (by decide +kernel)
set_option maxRecDepth 20000 in
theorem gL_law_X11_look : GoodIn wsL_law (wsV RL 44 RX11 yX11_look wsX11_look) := goodIn_app (goodIn_of _ (by decide +kernel)) ggL_law_X11_look
set_option maxRecDepth 20000 in
theorem ggL_law_X10_beats : GoodIn wsL_law wsX10_beats := goodIn_r _ [671, 31, 672, 673, 674, 30, 675, 509, 400, 401, 402, 403, 64, 1100, 1101, 1102, 1103, 1104, 1105, 1106, 1107, 1202, 1203, 1204, 1205, 1157, 1158, 1159, 1160] (by decide +kernel) (by decide +kernel)
set_option maxRecDepth 20000 in
theorem gL_law_X10_beats : GoodIn wsL_law (wsV RL 45 RX10 yX10_beats wsX10_beats) := goodIn_app (goodIn_of _ (by decide +kernel)) ggL_law_X10_beats
set_option maxRecDepth 20000 in
theorem ggL_law_X11_beats : GoodIn wsL_law wsX11_beats := goodIn_r _ [679, 139, 680, 681, 682, 5, 683, 539, 197, 198, 199, 627, 628, 629, 630, 631, 632, 633, 1108, 1109, 1110, 1111, 1112, 1113, 1114, 1115, 1116, 1117, 1118, 1119, 1120, 1121, 1122, 1123, 1124, 1125, 1126, 1127, 1128, 1129, 1130, 1131, 1132, 1133, 1134, 1135, 1136, 1137, 1138, 1139, 1140, 1141, 1142, 1143, 1144, 1145, 1146, 1147, 1148, 1149, 1150, 1151, 1152, 1153, 1154] (by decide +kernel) (by decide +kernel)
set_option maxRecDepth 20000 in
theorem gL_law_X11_beats : GoodIn wsL_law (wsV RL 48 RX11 yX11_beats wsX11_beats) := goodIn_app (goodIn_of _ (by decide +kernel)) ggL_law_X11_beats
set_option maxRecDepth 20000 in
theorem ggL_law_X10_thrown : GoodIn wsL_law wsX10_thrown := goodIn_r _ [687, 31, 672, 673, 674, 30, 675, 509, 400, 401, 402, 403, 64, 688, 689, 690, 93, 691, 386, 105, 106, 692, 447, 448, 449, 107, 693, 694, 695, 696, 697, 463, 464, 465, 1100, 1101, 1102, 1103, 1104, 1105, 1106, 1107, 1157, 1158, 1159, 1160, 1202, 1203, 1204, 1205] (by decide +kernel) (by decide +kernel)
set_option maxRecDepth 20000 in
theorem gL_law_X10_thrown : GoodIn wsL_law (wsV RL 49 RX10 yX10_thrown wsX10_thrown) := goodIn_app (goodIn_of _ (by decide +kernel)) ggL_law_X10_thrown
set_option maxRecDepth 20000 in
theorem ggL_law_X11_thrown : GoodIn wsL_law wsX11_thrown := goodIn_r _ [701, 680, 681, 682, 5, 683, 539, 197, 198, 199, 627, 628, 629, 630, 139, 631, 632, 633, 702, 703, 704, 705, 166, 706, 707, 708, 709, 710, 711, 712, 713, 1108, 1109, 1110, 1111, 1112, 1113, 1114, 1115, 1116, 1117, 1118, 1119, 1120, 1121, 1122, 1123, 1124, 1125, 1126, 1127, 1128, 1129, 1130, 1131, 1132, 1133, 1134, 1135, 1136, 1137, 1138, 1139, 1140, 1141, 1142, 1143, 1144, 1145, 1146, 1147, 1148, 1149, 1150, 1151, 1152, 1153, 1154] (by decide +kernel) (by decide +kernel)
set_option maxRecDepth 20000 in
theorem gL_law_X11_thrown : GoodIn wsL_law (wsV RL 52 RX11 yX11_thrown wsX11_thrown) := goodIn_app (goodIn_of _ (by decide +kernel)) ggL_law_X11_thrown
set_option maxRecDepth 20000 in
theorem ggL_law_X10_good : GoodIn wsL_law wsX10_good := goodIn_r _ [717, 31, 42, 672, 673, 674, 30, 675, 509, 400, 401, 402, 403, 64, 718, 719, 720, 41, 721, 111, 722, 17, 18, 19, 723, 418, 419, 420, 724, 443, 444, 93, 445, 386, 106, 725, 694, 695, 696, 107, 726, 727, 728, 729, 105, 450, 451, 452, 453, 446, 447, 448, 449, 454, 455, 456, 457, 458, 459, 460, 461, 462, 463, 464, 465, 730, 731, 467, 468, 469, 732, 733, 734, 735, 442, 736, 737, 738, 739, 740, 480, 481, 482, 1100, 1101, 1102, 1103, 1104, 1105, 1106, 1107, 1157, 1158, 1159, 1160, 1182, 1183, 1184, 1185, 1186, 1187, 1188, 1189, 1202, 1203, 1204, 1205] (by decide +kernel) (by decide +kernel)
set_option maxRecDepth 20000 in
theorem gL_law_X10_good : GoodIn wsL_law (wsV RL 53 RX10 yX10_good wsX10_good) := goodIn_app (goodIn_of _ (by decide +kernel)) ggL_law_X10_good
set_option maxRecDepth 20000 in
theorem ggL_law_X11_good : GoodIn wsL_law wsX11_good := goodIn_r _ [744, 745, 746, 139, 680, 681, 682, 5, 683, 539, 197, 198, 199, 627, 628, 629, 630, 631, 632, 633, 747, 748, 749, 750, 153, 706, 707, 708, 709, 710, 711, 712, 713, 751, 752, 753, 754, 166, 1108, 1109, 1110, 1111, 1112, 1113, 1114, 1115, 1116, 1117, 1118, 1119, 1120, 1121, 1122, 1123, 1124, 1125, 1126, 1127, 1128, 1129, 1130, 1131, 1132, 1133, 1134, 1135, 1136, 1137, 1138, 1139, 1140, 1141, 1142, 1143, 1144, 1145, 1146, 1147, 1148, 1149, 1150, 1151, 1152, 1153, 1154] (by decide +kernel) (by decide +kernel)
set_option maxRecDepth 20000 in
theorem gL_law_X11_good : GoodIn wsL_law (wsV RL 57 RX11 yX11_good wsX11_good) := goodIn_app (goodIn_of _ (by decide +kernel)) ggL_law_X11_good
set_option maxRecDepth 20000 in
theorem ggL_law_X10_cycles : GoodIn wsL_law wsX10_cycles := goodIn_r _ [758, 42, 31, 672, 673, 674, 30, 675, 509, 400, 401, 402, 403, 64, 759, 760, 761, 41, 762, 763, 112, 113, 764, 765, 719, 720, 721, 111, 722, 17, 18, 19, 723, 418, 419, 420, 724, 443, 444, 93, 445, 386, 106, 725, 694, 695, 696, 107, 726, 727, 728, 729, 105, 450, 451, 452, 453, 446, 447, 448, 449, 454, 455, 456, 457, 458, 459, 460, 461, 462, 463, 464, 465, 766, 767, 768, 769, 770, 771, 772, 773, 774, 775, 776, 777, 778, 114, 115, 116, 1100, 1101, 1102, 1103, 1104, 1105, 1106, 1107, 1182, 1183, 1184, 1185, 1186, 1187, 1188, 1189, 1157, 1158, 1159, 1160, 1202, 1203, 1204, 1205] (by decide +kernel) (by decide +kernel)
set_option maxRecDepth 20000 in
theorem gL_law_X10_cycles : GoodIn wsL_law (wsV RL 58 RX10 yX10_cycles wsX10_cycles) := goodIn_app (goodIn_of _ (by decide +kernel)) ggL_law_X10_cycles
set_option maxRecDepth 20000 in
theorem ggL_law_X11_cycles : GoodIn wsL_law wsX11_cycles := goodIn_r _ [782, 783, 784, 785, 786, 5, 787, 680, 681, 682, 683, 539, 197, 198, 199, 627, 628, 629, 630, 139, 631, 632, 633, 788, 789, 790, 791, 745, 747, 748, 749, 750, 153, 746, 706, 707, 708, 709, 710, 711, 712, 713, 792, 793, 794, 795, 154, 155, 156, 166, 157, 796, 797, 798, 799, 800, 801, 802, 803, 804, 805, 806, 807, 1108, 1109, 1110, 1111, 1112, 1113, 1114, 1115, 1116, 1117, 1118, 1119, 1120, 1121, 1122, 1123, 1124, 1125, 1126, 1127, 1128, 1129, 1130, 1131, 1132, 1133, 1134, 1135, 1136, 1137, 1138, 1139, 1140, 1141, 1142, 1143, 1144, 1145, 1146, 1147, 1148, 1149, 1150, 1151, 1152, 1153, 1154] (by decide +kernel) (by decide +kernel)
set_option maxRecDepth 20000 in
theorem gL_law_X11_cycles : GoodIn wsL_law (wsV RL 61 RX11 yX11_cycles wsX11_cycles) := goodIn_app (goodIn_of _ (by decide +kernel)) ggL_law_X11_cycles
set_option maxRecDepth 20000 in
theorem ggL_law_X10_cycle : GoodIn wsL_law wsX10_cycle := goodIn_r _ [811, 31, 42, 672, 673, 674, 30, 675, 509, 400, 401, 402, 403, 64, 759, 760, 761, 41, 762, 763, 112, 113, 764, 765, 719, 720, 721, 111, 722, 17, 18, 19, 723, 418, 419, 420, 724, 443, 444, 93, 445, 386, 106, 725, 694, 695, 696, 107, 726, 727, 728, 729, 105, 450, 451, 452, 453, 446, 447, 448, 449, 454, 455, 456, 457, 458, 459, 460, 461, 462, 463, 464, 465, 766, 767, 768, 769, 770, 771, 772, 773, 774, 775, 776, 777, 778, 114, 115, 116, 812, 737, 738, 739, 730, 731, 467, 468, 469, 813, 814, 815, 816, 1100, 1101, 1102, 1103, 1104, 1105, 1106, 1107, 1182, 1183, 1184, 1185, 1186, 1187, 1188, 1189, 1157, 1158, 1159, 1160, 1202, 1203, 1204, 1205] (by decide +kernel) (by decide +kernel)
set_option maxRecDepth 20000 in
theorem gL_law_X10_cycle : GoodIn wsL_law (wsV RL 62 RX10 yX10_cycle wsX10_cycle) := goodIn_app (goodIn_of _ (by decide +kernel)) ggL_law_X10_cycle
set_option maxRecDepth 20000 in
theorem ggL_law_X11_cycle : GoodIn wsL_law wsX11_cycle := goodIn_r _ [820, 783, 139, 156, 784, 785, 786, 5, 787, 680, 681, 682, 683, 539, 197, 198, 199, 627, 628, 629, 630, 631, 632, 633, 788, 789, 790, 791, 745, 747, 748, 749, 750, 153, 746, 706, 707, 708, 709, 710, 711, 712, 713, 792, 793, 794, 795, 154, 155, 166, 157, 796, 797, 798, 799, 800, 801, 802, 803, 804, 805, 806, 807, 1108, 1109, 1110, 1111, 1112, 1113, 1114, 1115, 1116, 1117, 1118, 1119, 1120, 1121, 1122, 1123, 1124, 1125, 1126, 1127, 1128, 1129, 1130, 1131, 1132, 1133, 1134, 1135, 1136, 1137, 1138, 1139, 1140, 1141, 1142, 1143, 1144, 1145, 1146, 1147, 1148, 1149, 1150, 1151, 1152, 1153, 1154] (by decide +kernel) (by decide +kernel)
set_option maxRecDepth 20000 in
theorem gL_law_X11_cycle : GoodIn wsL_law (wsV RL 66 RX11 yX11_cycle wsX11_cycle) := goodIn_app (goodIn_of _ (by decide +kernel)) ggL_law_X11_cycle
set_option maxRecDepth 20000 in
theorem ggL_law_X10_cycleOf : GoodIn wsL_law wsX10_cycleOf := goodIn_r _ [824, 31, 42, 672, 673, 674, 30, 675, 509, 400, 401, 402, 403, 64, 759, 760, 761, 41, 762, 763, 112, 113, 764, 765, 719, 720, 721, 111, 722, 17, 18, 19, 723, 418, 419, 420, 724, 443, 444, 93, 445, 386, 106, 725, 694, 695, 696, 107, 726, 727, 728, 729, 105, 450, 451, 452, 453, 446, 447, 448, 449, 454, 455, 456, 457, 458, 459, 460, 461, 462, 463, 464, 465, 766, 767, 768, 769, 770, 771, 772, 773, 774, 775, 776, 777, 778, 114, 115, 116, 688, 689, 690, 691, 1100, 1101, 1102, 1103, 1104, 1105, 1106, 1107, 1182, 1183, 1184, 1185, 1186, 1187, 1188, 1189, 1157, 1158, 1159, 1160, 1202, 1203, 1204, 1205] (by decide +kernel) (by decide +kernel)
set_option maxRecDepth 20000 in
theorem gL_law_X10_cycleOf : GoodIn wsL_law (wsV RL 67 RX10 yX10_cycleOf wsX10_cycleOf) := goodIn_app (goodIn_of _ (by decide +kernel)) ggL_law_X10_cycleOf
set_option maxRecDepth 20000 in
theorem ggL_law_X11_cycleOf : GoodIn wsL_law wsX11_cycleOf := goodIn_r _ [828, 156, 784, 785, 786, 5, 787, 680, 681, 682, 683, 539, 197, 198, 199, 627, 628, 629, 630, 139, 631, 632, 633, 788, 789, 790, 791, 745, 747, 748, 749, 750, 153, 746, 706, 707, 708, 709, 710, 711, 712, 713, 792, 793, 794, 795, 154, 155, 166, 157, 783, 796, 797, 798, 799, 800, 801, 802, 803, 804, 805, 806, 807, 702, 703, 704, 705, 1108, 1109, 1110, 1111, 1112, 1113, 1114, 1115, 1116, 1117, 1118, 1119, 1120, 1121, 1122, 1123, 1124, 1125, 1126, 1127, 1128, 1129, 1130, 1131, 1132, 1133, 1134, 1135, 1136, 1137, 1138, 1139, 1140, 1141, 1142, 1143, 1144, 1145, 1146, 1147, 1148, 1149, 1150, 1151, 1152, 1153, 1154] (by decide +kernel) (by decide +kernel)
set_option maxRecDepth 20000 in
theorem gL_law_X11_cycleOf : GoodIn wsL_law (wsV RL 71 RX11 yX11_cycleOf wsX11_cycleOf) := goodIn_app (goodIn_of _ (by decide +kernel)) ggL_law_X11_cycleOf
set_option maxRecDepth 20000 in
theorem ggL_law_X10_caught : GoodIn wsL_law wsX10_caught := goodIn_r _ [832, 31, 42, 672, 673, 674, 30, 675, 509, 400, 401, 402, 403, 64, 759, 760, 761, 41, 762, 763, 112, 113, 764, 765, 719, 720, 721, 111, 722, 17, 18, 19, 723, 418, 419, 420, 724, 443, 444, 93, 445, 386, 106, 725, 694, 695, 696, 107, 726, 727, 728, 729, 105, 450, 451, 452, 453, 446, 447, 448, 449, 454, 455, 456, 457, 458, 459, 460, 461, 462, 463, 464, 465, 766, 767, 768, 769, 770, 771, 772, 773, 774, 775, 776, 777, 778, 114, 115, 116, 833, 688, 689, 690, 691, 693, 834, 835, 836, 837, 838, 839, 840, 841, 842, 692, 731, 467, 468, 469, 813, 814, 815, 816, 1100, 1101, 1102, 1103, 1104, 1105, 1106, 1107, 1182, 1183, 1184, 1185, 1186, 1187, 1188, 1189, 1157, 1158, 1159, 1160, 1202, 1203, 1204, 1205] (by decide +kernel) (by decide +kernel)
set_option maxRecDepth 20000 in
theorem gL_law_X10_caught : GoodIn wsL_law (wsV RL 72 RX10 yX10_caught wsX10_caught) := goodIn_app (goodIn_of _ (by decide +kernel)) ggL_law_X10_caught
set_option maxRecDepth 20000 in
theorem ggL_law_X11_caught : GoodIn wsL_law wsX11_caught := goodIn_r _ [846, 139, 155, 784, 785, 786, 5, 787, 680, 681, 682, 683, 539, 197, 198, 199, 627, 628, 629, 630, 631, 632, 633, 788, 789, 790, 791, 745, 747, 748, 749, 750, 153, 746, 706, 707, 708, 709, 710, 711, 712, 713, 792, 793, 794, 795, 154, 156, 166, 157, 783, 796, 797, 798, 799, 800, 801, 802, 803, 804, 805, 806, 807, 702, 703, 704, 705, 847, 848, 849, 850, 851, 852, 853, 854, 1108, 1109, 1110, 1111, 1112, 1113, 1114, 1115, 1116, 1117, 1118, 1119, 1120, 1121, 1122, 1123, 1124, 1125, 1126, 1127, 1128, 1129, 1130, 1131, 1132, 1133, 1134, 1135, 1136, 1137, 1138, 1139, 1140, 1141, 1142, 1143, 1144, 1145, 1146, 1147, 1148, 1149, 1150, 1151, 1152, 1153, 1154] (by decide +kernel) (by decide +kernel)
set_option maxRecDepth 20000 in
theorem gL_law_X11_caught : GoodIn wsL_law (wsV RL 75 RX11 yX11_caught wsX11_caught) := goodIn_app (goodIn_of _ (by decide +kernel)) ggL_law_X11_caught
set_option maxRecDepth 20000 in
theorem ggL_law_X10_state : GoodIn wsL_law wsX10_state := goodIn_r _ [858, 31, 672, 673, 674, 30, 675, 509, 400, 401, 402, 403, 64, 859, 860, 861, 2, 862, 42, 740, 480, 481, 93, 482, 105, 386, 107, 106, 718, 719, 720, 41, 721, 111, 722, 17, 18, 19, 723, 418, 419, 420, 724, 443, 444, 445, 725, 694, 695, 696, 726, 727, 728, 729, 450, 451, 452, 453, 446, 447, 448, 449, 454, 455, 456, 457, 458, 459, 460, 461, 462, 463, 464, 465, 863, 864, 45, 865, 866, 867, 689, 690, 691, 868, 1100, 1101, 1102, 1103, 1104, 1105, 1106, 1107, 1202, 1203, 1204, 1205, 1157, 1158, 1159, 1160, 1182, 1183, 1184, 1185, 1186, 1187, 1188, 1189] (by decide +kernel) (by decide +kernel)
set_option maxRecDepth 20000 in
theorem gL_law_X10_state : GoodIn wsL_law (wsV RL 76 RX10 yX10_state wsX10_state) := goodIn_app (goodIn_of _ (by decide +kernel)) ggL_law_X10_state
set_option maxRecDepth 20000 in
theorem ggL_law_X11_state : GoodIn wsL_law wsX11_state := goodIn_r _ [872, 139, 680, 681, 682, 5, 683, 539, 197, 198, 199, 627, 628, 629, 630, 631, 632, 633, 873, 874, 875, 876, 788, 789, 790, 791, 745, 747, 748, 749, 750, 153, 746, 706, 707, 708, 709, 710, 711, 712, 713, 751, 752, 753, 754, 166, 877, 878, 879, 880, 605, 606, 607, 1108, 1109, 1110, 1111, 1112, 1113, 1114, 1115, 1116, 1117, 1118, 1119, 1120, 1121, 1122, 1123, 1124, 1125, 1126, 1127, 1128, 1129, 1130, 1131, 1132, 1133, 1134, 1135, 1136, 1137, 1138, 1139, 1140, 1141, 1142, 1143, 1144, 1145, 1146, 1147, 1148, 1149, 1150, 1151, 1152, 1153, 1154] (by decide +kernel) (by decide +kernel)
set_option maxRecDepth 20000 in
theorem gL_law_X11_state : GoodIn wsL_law (wsV RL 79 RX11 yX11_state wsX11_state) := goodIn_app (goodIn_of _ (by decide +kernel)) ggL_law_X11_state
set_option maxRecDepth 20000 in
theorem ggL_law_X10_way : GoodIn wsL_law wsX10_way := goodIn_r _ [884, 46, 885, 886, 887, 45, 888, 120, 889, 890, 891, 892, 893, 894, 895, 896, 897, 898, 899, 122, 121, 900, 418, 419, 420, 901, 902, 903, 904, 905, 906, 907, 123, 1100, 1101, 1102, 1103, 1104, 1105, 1106, 1107, 1190, 1191, 1192, 1193] (by decide +kernel) (by decide +kernel)
set_option maxRecDepth 20000 in
theorem gL_law_X10_way : GoodIn wsL_law (wsV RL 80 RX10 yX10_way wsX10_way) := goodIn_app (goodIn_of _ (by decide +kernel)) ggL_law_X10_way
set_option maxRecDepth 20000 in
theorem ggL_law_X11_way : GoodIn wsL_law wsX11_way := goodIn_r _ [911, 158, 197, 198, 5, 199, 912, 913, 914, 915, 159, 916, 917, 918, 919, 920, 921, 922, 1108, 1109, 1110, 1111, 1112, 1113, 1114, 1115, 1116, 1117, 1118, 1119, 1120, 1121, 1122, 1123, 1124, 1125, 1126, 1127, 1128, 1129, 1130, 1131, 1132, 1133, 1134, 1135, 1136, 1137, 1138, 1139, 1140, 1141, 1142, 1143, 1144, 1145, 1146, 1147, 1148, 1149, 1150, 1151, 1152, 1153, 1154] (by decide +kernel) (by decide +kernel)
set_option maxRecDepth 20000 in
theorem gL_law_X11_way : GoodIn wsL_law (wsV RL 83 RX11 yX11_way wsX11_way) := goodIn_app (goodIn_of _ (by decide +kernel)) ggL_law_X11_way
set_option maxRecDepth 20000 in
theorem ggL_law_X10_loops : GoodIn wsL_law wsX10_loops := goodIn_r _ [926, 927, 928, 45, 929, 889, 890, 891, 892, 893, 894, 895, 930, 931, 932, 901, 902, 903] (by decide +kernel) (by decide +kernel)
set_option maxRecDepth 20000 in
theorem gL_law_X10_loops : GoodIn wsL_law (wsV RL 84 RX10 yX10_loops wsX10_loops) := goodIn_app (goodIn_of _ (by decide +kernel)) ggL_law_X10_loops
set_option maxRecDepth 20000 in
theorem ggL_law_X11_loops : GoodIn wsL_law wsX11_loops := goodIn_r _ [936, 197, 198, 5, 199, 937, 938, 939, 940, 941, 942, 943, 160, 161, 916, 917, 918, 944, 945, 946, 947, 1108, 1109, 1110, 1111, 1112, 1113, 1114, 1115, 1116, 1117, 1118, 1119, 1120, 1121, 1122, 1123, 1124, 1125, 1126, 1127, 1128, 1129, 1130, 1131, 1132, 1133, 1134, 1135, 1136, 1137, 1138, 1139, 1140, 1141, 1142, 1143, 1144, 1145, 1146, 1147, 1148, 1149, 1150, 1151, 1152, 1153, 1154] (by decide +kernel) (by decide +kernel)
set_option maxRecDepth 20000 in
theorem gL_law_X11_loops : GoodIn wsL_law (wsV RL 87 RX11 yX11_loops wsX11_loops) := goodIn_app (goodIn_of _ (by decide +kernel)) ggL_law_X11_loops
set_option maxRecDepth 20000 in
theorem ggL_law_X10_clear : GoodIn wsL_law wsX10_clear := goodIn_r _ [951, 50, 1100, 1101, 1102, 1103, 1104, 1105, 1106, 1107, 1194, 1195, 1196, 1197] (by decide +kernel) (by decide +kernel)
set_option maxRecDepth 20000 in
theorem gL_law_X10_clear : GoodIn wsL_law (wsV RL 88 RX10 yX10_clear wsX10_clear) := goodIn_app (goodIn_of _ (by decide +kernel)) ggL_law_X10_clear
set_option maxRecDepth 20000 in
theorem ggL_law_X11_clear : GoodIn wsL_law wsX11_clear := goodIn_r _ [955, 956, 1108, 1109, 1110, 1111, 1112, 1113, 1114, 1115, 1116, 1117, 1118, 1119, 1120, 1121, 1122, 1123, 1124, 1125, 1126, 1127, 1128, 1129, 1130, 1131, 1132, 1133, 1134, 1135, 1136, 1137, 1138, 1139, 1140, 1141, 1142, 1143, 1144, 1145, 1146, 1147, 1148, 1149, 1150, 1151, 1152, 1153, 1154] (by decide +kernel) (by decide +kernel)
set_option maxRecDepth 20000 in
theorem gL_law_X11_clear : GoodIn wsL_law (wsV RL 91 RX11 yX11_clear wsX11_clear) := goodIn_app (goodIn_of _ (by decide +kernel)) ggL_law_X11_clear
set_option maxRecDepth 20000 in
theorem ggL_law_X10_add : GoodIn wsL_law wsX10_add := goodIn_r _ [960, 31, 50, 46, 672, 673, 674, 30, 675, 509, 400, 401, 402, 403, 64, 859, 860, 861, 2, 862, 42, 740, 480, 481, 93, 482, 105, 386, 107, 106, 718, 719, 720, 41, 721, 111, 722, 17, 18, 19, 723, 418, 419, 420, 724, 443, 444, 445, 725, 694, 695, 696, 726, 727, 728, 729, 450, 451, 452, 453, 446, 447, 448, 449, 454, 455, 456, 457, 458, 459, 460, 461, 462, 463, 464, 465, 863, 864, 45, 865, 866, 867, 689, 690, 691, 868, 885, 886, 887, 888, 120, 889, 890, 891, 892, 893, 894, 895, 896, 897, 898, 899, 122, 121, 900, 901, 902, 903, 904, 905, 906, 907, 123, 961, 962, 963, 49, 964, 965, 966, 967, 968, 969, 127, 128, 970, 971, 972, 973, 974, 975, 976, 1100, 1101, 1102, 1103, 1104, 1105, 1106, 1107, 1194, 1195, 1196, 1197, 1202, 1203, 1204, 1205, 1190, 1191, 1192, 1193, 1157, 1158, 1159, 1160, 1182, 1183, 1184, 1185, 1186, 1187, 1188, 1189] (by decide +kernel) (by decide +kernel)
set_option maxRecDepth 20000 in
theorem gL_law_X10_add : GoodIn wsL_law (wsV RL 92 RX10 yX10_add wsX10_add) := goodIn_app (goodIn_of _ (by decide +kernel)) ggL_law_X10_add
set_option maxRecDepth 20000 in
theorem ggL_law_X11_add : GoodIn wsL_law wsX11_add := goodIn_r _ [980, 746, 139, 956, 981, 158, 982, 680, 681, 682, 5, 683, 539, 197, 198, 199, 627, 628, 629, 630, 631, 632, 633, 873, 874, 875, 876, 788, 789, 790, 791, 745, 747, 748, 749, 750, 153, 706, 707, 708, 709, 710, 711, 712, 713, 751, 752, 753, 754, 166, 877, 878, 879, 880, 605, 606, 607, 912, 913, 914, 915, 159, 916, 917, 918, 919, 920, 921, 922, 983, 984, 985, 986, 162, 163, 1108, 1109, 1110, 1111, 1112, 1113, 1114, 1115, 1116, 1117, 1118, 1119, 1120, 1121, 1122, 1123, 1124, 1125, 1126, 1127, 1128, 1129, 1130, 1131, 1132, 1133, 1134, 1135, 1136, 1137, 1138, 1139, 1140, 1141, 1142, 1143, 1144, 1145, 1146, 1147, 1148, 1149, 1150, 1151, 1152, 1153, 1154] (by decide +kernel) (by decide +kernel)
set_option maxRecDepth 20000 in
theorem gL_law_X11_add : GoodIn wsL_law (wsV RL 95 RX11 yX11_add wsX11_add) := goodIn_app (goodIn_of _ (by decide +kernel)) ggL_law_X11_add
set_option maxRecDepth 20000 in
theorem ggL_law_X10_score : GoodIn wsL_law wsX10_score := goodIn_r _ [990, 50, 1100, 1101, 1102, 1103, 1104, 1105, 1106, 1107, 1194, 1195, 1196, 1197] (by decide +kernel) (by decide +kernel)
set_option maxRecDepth 20000 in
theorem gL_law_X10_score : GoodIn wsL_law (wsV RL 96 RX10 yX10_score wsX10_score) := goodIn_app (goodIn_of _ (by decide +kernel)) ggL_law_X10_score
set_option maxRecDepth 20000 in
theorem ggL_law_X11_score : GoodIn wsL_law wsX11_score := goodIn_r _ [994, 956, 162, 163, 197, 198, 5, 199, 1108, 1109, 1110, 1111, 1112, 1113, 1114, 1115, 1116, 1117, 1118, 1119, 1120, 1121, 1122, 1123, 1124, 1125, 1126, 1127, 1128, 1129, 1130, 1131, 1132, 1133, 1134, 1135, 1136, 1137, 1138, 1139, 1140, 1141, 1142, 1143, 1144, 1145, 1146, 1147, 1148, 1149, 1150, 1151, 1152, 1153, 1154] (by decide +kernel) (by decide +kernel)
set_option maxRecDepth 20000 in
theorem gL_law_X11_score : GoodIn wsL_law (wsV RL 99 RX11 yX11_score wsX11_score) := goodIn_app (goodIn_of _ (by decide +kernel)) ggL_law_X11_score
set_option maxRecDepth 20000 in
theorem ggL_law_X10_seen : GoodIn wsL_law wsX10_seen := goodIn_r _ [998, 31, 999, 1000, 1001, 30, 1002, 66, 509, 1100, 1101, 1102, 1103, 1104, 1105, 1106, 1107, 1200, 1201, 1157, 1158, 1159, 1160] (by decide +kernel) (by decide +kernel)
set_option maxRecDepth 20000 in
theorem gL_law_X10_seen : GoodIn wsL_law (wsV RL 100 RX10 yX10_seen wsX10_seen) := goodIn_app (goodIn_of _ (by decide +kernel)) ggL_law_X10_seen
set_option maxRecDepth 20000 in
theorem ggL_law_X11_seen : GoodIn wsL_law wsX11_seen := goodIn_r _ [1006, 140, 1007, 1008, 1009, 5, 1010, 539, 197, 198, 199, 1108, 1109, 1110, 1111, 1112, 1113, 1114, 1115, 1116, 1117, 1118, 1119, 1120, 1121, 1122, 1123, 1124, 1125, 1126, 1127, 1128, 1129, 1130, 1131, 1132, 1133, 1134, 1135, 1136, 1137, 1138, 1139, 1140, 1141, 1142, 1143, 1144, 1145, 1146, 1147, 1148, 1149, 1150, 1151, 1152, 1153, 1154] (by decide +kernel) (by decide +kernel)
set_option maxRecDepth 20000 in
theorem gL_law_X11_seen : GoodIn wsL_law (wsV RL 103 RX11 yX11_seen wsX11_seen) := goodIn_app (goodIn_of _ (by decide +kernel)) ggL_law_X11_seen
set_option maxRecDepth 20000 in
theorem ggL_law_X10_whole : GoodIn wsL_law wsX10_whole := goodIn_r _ [1014, 31, 54, 999, 1000, 1001, 30, 1002, 66, 509, 1015, 1016, 1017, 53, 1018, 132, 1019, 1020, 419, 1021, 1022, 1023, 1024, 1025, 1026, 1027, 1028, 1029, 17, 18, 19, 1030, 890, 891, 892, 893, 894, 895, 1031, 1032, 1033, 1034, 1035, 1036, 1037, 133, 1038, 1039, 1040, 1041, 1100, 1101, 1102, 1103, 1104, 1105, 1106, 1107, 1200, 1201, 1198, 1199, 1157, 1158, 1159, 1160] (by decide +kernel) (by decide +kernel)
set_option maxRecDepth 20000 in
theorem gL_law_X10_whole : GoodIn wsL_law (wsV RL 104 RX10 yX10_whole wsX10_whole) := goodIn_app (goodIn_of _ (by decide +kernel)) ggL_law_X10_whole
set_option maxRecDepth 20000 in
theorem ggL_law_X11_whole : GoodIn wsL_law wsX11_whole := goodIn_r _ [1045, 140, 165, 1007, 1008, 1009, 5, 1010, 539, 197, 198, 199, 1046, 1047, 1048, 1049, 164, 1108, 1109, 1110, 1111, 1112, 1113, 1114, 1115, 1116, 1117, 1118, 1119, 1120, 1121, 1122, 1123, 1124, 1125, 1126, 1127, 1128, 1129, 1130, 1131, 1132, 1133, 1134, 1135, 1136, 1137, 1138, 1139, 1140, 1141, 1142, 1143, 1144, 1145, 1146, 1147, 1148, 1149, 1150, 1151, 1152, 1153, 1154] (by decide +kernel) (by decide +kernel)
set_option maxRecDepth 20000 in
theorem gL_law_X11_whole : GoodIn wsL_law (wsV RL 107 RX11 yX11_whole wsX11_whole) := goodIn_app (goodIn_of _ (by decide +kernel)) ggL_law_X11_whole
set_option maxRecDepth 20000 in
theorem ggL_law_X10_drop : GoodIn wsL_law wsX10_drop := goodIn_r _ [1053, 31, 42, 672, 673, 674, 30, 675, 509, 400, 401, 402, 403, 64, 204, 205, 206, 207, 208, 759, 760, 761, 41, 762, 763, 112, 113, 764, 765, 719, 720, 721, 111, 722, 17, 18, 19, 723, 418, 419, 420, 724, 443, 444, 93, 445, 386, 106, 725, 694, 695, 696, 107, 726, 727, 728, 729, 105, 450, 451, 452, 453, 446, 447, 448, 449, 454, 455, 456, 457, 458, 459, 460, 461, 462, 463, 464, 465, 766, 767, 768, 769, 770, 771, 772, 773, 774, 775, 776, 777, 778, 114, 115, 116, 1054, 1055, 1056, 1057, 1058, 92, 1059, 101, 102, 103, 14, 15, 104, 21, 22, 58, 1060, 413, 414, 415, 416, 417, 1061, 1062, 467, 468, 469, 1063, 1064, 426, 427, 428, 1065, 506, 507, 508, 66, 510, 1066, 519, 520, 521, 1100, 1101, 1102, 1103, 1104, 1105, 1106, 1107, 1182, 1183, 1184, 1185, 1186, 1187, 1188, 1189, 1157, 1158, 1159, 1160, 1202, 1203, 1204, 1205] (by decide +kernel) (by decide +kernel)
set_option maxRecDepth 20000 in
theorem gL_law_X10_drop : GoodIn wsL_law (wsV RL 108 RX10 yX10_drop wsX10_drop) := goodIn_app (goodIn_of _ (by decide +kernel)) ggL_law_X10_drop
set_option maxRecDepth 20000 in
theorem ggL_law_X11_drop : GoodIn wsL_law wsX11_drop := goodIn_r _ [1070, 537, 783, 139, 156, 539, 784, 785, 786, 5, 787, 680, 681, 682, 683, 197, 198, 199, 627, 628, 629, 630, 631, 632, 633, 788, 789, 790, 791, 745, 747, 748, 749, 750, 153, 746, 706, 707, 708, 709, 710, 711, 712, 713, 792, 793, 794, 795, 154, 155, 166, 157, 796, 797, 798, 799, 800, 801, 802, 803, 804, 805, 806, 807, 612, 613, 614, 1108, 1109, 1110, 1111, 1112, 1113, 1114, 1115, 1116, 1117, 1118, 1119, 1120, 1121, 1122, 1123, 1124, 1125, 1126, 1127, 1128, 1129, 1130, 1131, 1132, 1133, 1134, 1135, 1136, 1137, 1138, 1139, 1140, 1141, 1142, 1143, 1144, 1145, 1146, 1147, 1148, 1149, 1150, 1151, 1152, 1153, 1154] (by decide +kernel) (by decide +kernel)
set_option maxRecDepth 20000 in
theorem gL_law_X11_drop : GoodIn wsL_law (wsV RL 111 RX11 yX11_drop wsX11_drop) := goodIn_app (goodIn_of _ (by decide +kernel)) ggL_law_X11_drop
set_option maxRecDepth 20000 in
theorem ggL_law_X10_turned : GoodIn wsL_law wsX10_turned := goodIn_r _ [1074, 31, 672, 673, 674, 30, 675, 509, 400, 401, 402, 403, 64, 1075, 1076, 1077, 93, 1078, 106, 442, 443, 444, 445, 386, 450, 451, 452, 453, 454, 455, 456, 457, 458, 459, 460, 461, 1079, 1080, 1081, 1082, 107, 1100, 1101, 1102, 1103, 1104, 1105, 1106, 1107, 1202, 1203, 1204, 1205, 1157, 1158, 1159, 1160] (by decide +kernel) (by decide +kernel)
set_option maxRecDepth 20000 in
theorem gL_law_X10_turned : GoodIn wsL_law (wsV RL 112 RX10 yX10_turned wsX10_turned) := goodIn_app (goodIn_of _ (by decide +kernel)) ggL_law_X10_turned
set_option maxRecDepth 20000 in
theorem ggL_law_X11_turned : GoodIn wsL_law wsX11_turned := goodIn_r _ [1086, 139, 680, 681, 682, 5, 683, 539, 197, 198, 199, 627, 628, 629, 630, 631, 632, 633, 1108, 1109, 1110, 1111, 1112, 1113, 1114, 1115, 1116, 1117, 1118, 1119, 1120, 1121, 1122, 1123, 1124, 1125, 1126, 1127, 1128, 1129, 1130, 1131, 1132, 1133, 1134, 1135, 1136, 1137, 1138, 1139, 1140, 1141, 1142, 1143, 1144, 1145, 1146, 1147, 1148, 1149, 1150, 1151, 1152, 1153, 1154] (by decide +kernel) (by decide +kernel)
set_option maxRecDepth 20000 in
theorem gL_law_X11_turned : GoodIn wsL_law (wsV RL 115 RX11 yX11_turned wsX11_turned) := goodIn_app (goodIn_of _ (by decide +kernel)) ggL_law_X11_turned
set_option maxRecDepth 20000 in
theorem ggL_law_X10_about : GoodIn wsL_law wsX10_about := goodIn_r _ [1090, 23, 31, 27, 50, 1091, 1092, 1093, 30, 1094, 1095, 673, 674, 675, 509, 400, 401, 402, 403, 64, 1100, 1101, 1102, 1103, 1104, 1105, 1106, 1107, 1157, 1158, 1159, 1160, 1155, 1156, 1194, 1195, 1196, 1197] (by decide +kernel) (by decide +kernel)
set_option maxRecDepth 20000 in
theorem gL_law_X10_about : GoodIn wsL_law (wsV RL 116 RX10 yX10_about wsX10_about) := goodIn_app (goodIn_of _ (by decide +kernel)) ggL_law_X10_about
set_option maxRecDepth 20000 in
theorem ggL_law_X11_about : GoodIn wsL_law wsX11_about := goodIn_r _ [1099, 166, 537, 539, 184, 956, 680, 681, 682, 5, 683, 197, 198, 199, 627, 628, 629, 630, 139, 631, 632, 633, 1108, 1109, 1110, 1111, 1112, 1113, 1114, 1115, 1116, 1117, 1118, 1119, 1120, 1121, 1122, 1123, 1124, 1125, 1126, 1127, 1128, 1129, 1130, 1131, 1132, 1133, 1134, 1135, 1136, 1137, 1138, 1139, 1140, 1141, 1142, 1143, 1144, 1145, 1146, 1147, 1148, 1149, 1150, 1151, 1152, 1153, 1154] (by decide +kernel) (by decide +kernel)
set_option maxRecDepth 20000 in
theorem gL_law_X11_about : GoodIn wsL_law (wsV RL 119 RX11 yX11_about wsX11_about) := goodIn_app (goodIn_of _ (by decide +kernel)) ggL_law_X11_about
set_option maxRecDepth 100000 in
set_option maxHeartbeats 4000000 in
theorem law_c0 {p : Program} {l : Launch} {e : Env} {s : State} {m : MethodId} {below : List Frame} {meth : Method} {c : Code} {b : Nat} {xs : Nat → Int32} {A : Nat → Prop} {D : va_G} {cI cR cM : ClassId} {jn : Nat} {hh mm : Nat} {uh um : Nat → Nat} {H : Heap} {locs : List Loc} {ls : Array Slot} (C : LC p s m meth c b 7 xs A D cI cR cM) (hP : va_P D vwCl [(hh, .inr (10, [.int (nI jn), .ref (uh 0), .ref (uh 1), .ref (uh 2), .ref (uh 3), .ref (uh 4), .ref (uh 5), .ref (uh 6)])), (uh 0, .inr (7, [.ref (uh 7), .int 0])), (uh 7, .inl (cI, 300, .inl (fun _ => 0))), (mm, .inr (11, [.int (nI jn), .ref (um 0), .ref (um 1), .int 0, .int 0, .ref (um 2), .int 0, .int (-1), .int (-1), .int 0, .int 0, .int 0, .int 0, .int 0, .ref (um 3), .ref (um 4), .ref (um 5), .ref (um 6), .ref (um 7), .int 0, .int 0, .int 0, .ref (um 8), .ref (um 9), .ref (um 10), .int 0, .int 0, .ref (um 11), .int 0, .int 0, .ref (um 12), .ref (um 13), .ref (um 14), .ref (um 15), .ref (um 16), .int 0, .ref (um 17), .ref (um 18), .ref (um 19), .ref (um 20), .ref (um 21), .ref (um 22), .int 0, .int 0, .int 0, .ref (um 23), .ref (um 24)])), (um 2, .inl (cI, 300, .inl (fun _ => 0)))] H) (hD : va_D A [(hh, .inr (10, [.int (nI jn), .ref (uh 0), .ref (uh 1), .ref (uh 2), .ref (uh 3), .ref (uh 4), .ref (uh 5), .ref (uh 6)])), (uh 0, .inr (7, [.ref (uh 7), .int 0])), (uh 7, .inl (cI, 300, .inl (fun _ => 0))), (mm, .inr (11, [.int (nI jn), .ref (um 0), .ref (um 1), .int 0, .int 0, .ref (um 2), .int 0, .int (-1), .int (-1), .int 0, .int 0, .int 0, .int 0, .int 0, .ref (um 3), .ref (um 4), .ref (um 5), .ref (um 6), .ref (um 7), .int 0, .int 0, .int 0, .ref (um 8), .ref (um 9), .ref (um 10), .int 0, .int 0, .ref (um 11), .int 0, .int 0, .ref (um 12), .ref (um 13), .ref (um 14), .ref (um 15), .ref (um 16), .int 0, .ref (um 17), .ref (um 18), .ref (um 19), .ref (um 20), .ref (um 21), .ref (um 22), .int 0, .int 0, .int 0, .ref (um 23), .ref (um 24)])), (um 2, .inl (cI, 300, .inl (fun _ => 0)))]) (hS : va_S A s.heap H locs) (hl : lv_has ls 4 [(0, .ref b), (1, .ref hh), (2, .ref mm), (3, .int 1)]) : W p l e room_1 s m #[Value.ref b] below meth c H locs 92 95787 (lw_Z below #[Value.ref b] s) (F0 m 148 ls []) := by
  have C0 := C
  obtain ⟨hx, hb, hr, hml, hown, hts, hX, hbl, hlocks, hK, hA, hA2⟩ := C
  have hbA : ¬ A b := fun q => absurd (hA2 b q) (Nat.not_le.mpr hbl)
  refine lv_aload_n hx hb dL_law_148 rfl (lv_at hl 1 rfl) ?_
  refine lv_aload_n hx hb dL_law_149 rfl (lv_at hl 0 rfl) ?_
  refine lv_iload_n hx hb dL_law_150 rfl (lv_at hl 3 rfl) ?_
  refine lv_iconst (v := 1) hx hb dL_law_151 (by decide) ?_
  refine lv_iadd hx hb dL_law_152 ?_
  refine lv_eqi (y := 2) (by decide) ?_
  refine va_sld hx hb hX hbl hbA hS (vp_in_nI (n := 2) (by decide) (by decide)) dL_law_153 ?_
  refine lv_eqi (y := xs 2) rfl ?_
  refine lv_aload_n hx hb dL_law_154 rfl (lv_at hl 0 rfl) ?_
  refine lv_iload_n hx hb dL_law_155 rfl (lv_at hl 3 rfl) ?_
  refine lv_iconst (v := 2) hx hb dL_law_156 (by decide) ?_
  refine lv_iadd hx hb dL_law_157 ?_
  refine lv_eqi (y := 3) (by decide) ?_
  refine va_sld hx hb hX hbl hbA hS (vp_in_nI (n := 3) (by decide) (by decide)) dL_law_158 ?_
  refine lv_eqi (y := xs 3) rfl ?_
  refine lv_aload_n hx hb dL_law_159 rfl (lv_at hl 0 rfl) ?_
  refine lv_iload_n hx hb dL_law_160 rfl (lv_at hl 3 rfl) ?_
  refine lv_iconst (v := 3) hx hb dL_law_161 (by decide) ?_
  refine lv_iadd hx hb dL_law_162 ?_
  refine lv_eqi (y := 4) (by decide) ?_
  refine va_sld hx hb hX hbl hbA hS (vp_in_nI (n := 4) (by decide) (by decide)) dL_law_163 ?_
  refine lv_eqi (y := xs 4) rfl ?_
  refine lv_aload_n hx hb dL_law_164 rfl (lv_at hl 0 rfl) ?_
  refine lv_iload_n hx hb dL_law_165 rfl (lv_at hl 3 rfl) ?_
  refine lv_iconst (v := 4) hx hb dL_law_166 (by decide) ?_
  refine lv_iadd hx hb dL_law_167 ?_
  refine lv_eqi (y := 5) (by decide) ?_
  refine va_sld hx hb hX hbl hbA hS (vp_in_nI (n := 5) (by decide) (by decide)) dL_law_168 ?_
  refine lv_eqi (y := xs 5) rfl ?_
  refine lv_aload_n hx hb dL_law_169 rfl (lv_at hl 0 rfl) ?_
  refine lv_iload_n hx hb dL_law_170 rfl (lv_at hl 3 rfl) ?_
  refine lv_iconst (v := 5) hx hb dL_law_171 (by decide) ?_
  refine lv_iadd hx hb dL_law_172 ?_
  refine lv_eqi (y := 6) (by decide) ?_
  refine va_sld hx hb hX hbl hbA hS (vp_in_nI (n := 6) (by decide) (by decide)) dL_law_173 ?_
  refine lv_eqi (y := xs 6) rfl ?_
  have hPc := hP.sub (ws' := [(hh, .inr (10, [.int (nI jn), .ref (uh 0), .ref (uh 1), .ref (uh 2), .ref (uh 3), .ref (uh 4), .ref (uh 5), .ref (uh 6)])), (uh 0, .inr (7, [.ref (uh 7), .int 0])), (uh 7, .inl (cI, 300, .inl (fun _ => 0)))]) [0, 1, 2] rfl
  have hDc := hD.sub (ws' := [(hh, .inr (10, [.int (nI jn), .ref (uh 0), .ref (uh 1), .ref (uh 2), .ref (uh 3), .ref (uh 4), .ref (uh 5), .ref (uh 6)])), (uh 0, .inr (7, [.ref (uh 7), .int 0])), (uh 7, .inl (cI, 300, .inl (fun _ => 0)))]) [0, 1, 2] (by decide) rfl
  refine call_g (wr := [(mm, .inr (11, [.int (nI jn), .ref (um 0), .ref (um 1), .int 0, .int 0, .ref (um 2), .int 0, .int (-1), .int (-1), .int 0, .int 0, .int 0, .int 0, .int 0, .ref (um 3), .ref (um 4), .ref (um 5), .ref (um 6), .ref (um 7), .int 0, .int 0, .int 0, .ref (um 8), .ref (um 9), .ref (um 10), .int 0, .int 0, .ref (um 11), .int 0, .int 0, .ref (um 12), .ref (um 13), .ref (um 14), .ref (um 15), .ref (um 16), .int 0, .ref (um 17), .ref (um 18), .ref (um 19), .ref (um 20), .ref (um 21), .ref (um 22), .int 0, .int 0, .int 0, .ref (um 23), .ref (um 24)])), (um 2, .inl (cI, 300, .inl (fun _ => 0)))]) (va_runV (As := [.int (xs 2), .int (xs 3), .int (xs 4), .int (xs 5), .int (xs 6)]) (rest := []) ⟨hx, hb, hml, hown, hts⟩ (c_feed l D cI cR cM _ (xs 2) (xs 3) (xs 4) (xs 5) (xs 6) hh (.int (nI jn)) (.ref (uh 1)) (.ref (uh 2)) (.ref (uh 3)) (.ref (uh 4)) (.ref (uh 5)) (.ref (uh 6)) (uh 0) (uh 7)) (cwV 5 hts gL_law_X10_feed rfl rfl rfl (by decide +kernel) ⟨Nat.le_of_ble_eq_true rfl, Nat.le_of_ble_eq_true rfl⟩) (pre_V hK hPc hDc 0 10 rfl rfl) rfl rfl hl.1 rfl (lv_room (Nat.le_of_ble_eq_true rfl)) dL_law_174 ⟨Nat.le_of_ble_eq_true rfl, Nat.le_of_ble_eq_true rfl⟩) hP hD hS hA [0, 1, 2] [3, 4] rfl rfl (by decide) (by decide) (fun _u H locs hw hP hD hS => ?_)
  have hP : va_P D vwCl [(mm, .inr (11, [.int (nI jn), .ref (um 0), .ref (um 1), .int 0, .int 0, .ref (um 2), .int 0, .int (-1), .int (-1), .int 0, .int 0, .int 0, .int 0, .int 0, .ref (um 3), .ref (um 4), .ref (um 5), .ref (um 6), .ref (um 7), .int 0, .int 0, .int 0, .ref (um 8), .ref (um 9), .ref (um 10), .int 0, .int 0, .ref (um 11), .int 0, .int 0, .ref (um 12), .ref (um 13), .ref (um 14), .ref (um 15), .ref (um 16), .int 0, .ref (um 17), .ref (um 18), .ref (um 19), .ref (um 20), .ref (um 21), .ref (um 22), .int 0, .int 0, .int 0, .ref (um 23), .ref (um 24)])), (um 2, .inl (cI, 300, .inl (fun _ => 0)))] H := hP
  have hD : va_D A [(mm, .inr (11, [.int (nI jn), .ref (um 0), .ref (um 1), .int 0, .int 0, .ref (um 2), .int 0, .int (-1), .int (-1), .int 0, .int 0, .int 0, .int 0, .int 0, .ref (um 3), .ref (um 4), .ref (um 5), .ref (um 6), .ref (um 7), .int 0, .int 0, .int 0, .ref (um 8), .ref (um 9), .ref (um 10), .int 0, .int 0, .ref (um 11), .int 0, .int 0, .ref (um 12), .ref (um 13), .ref (um 14), .ref (um 15), .ref (um 16), .int 0, .ref (um 17), .ref (um 18), .ref (um 19), .ref (um 20), .ref (um 21), .ref (um 22), .int 0, .int 0, .int 0, .ref (um 23), .ref (um 24)])), (um 2, .inl (cI, 300, .inl (fun _ => 0)))] := hD
  refine lv_aload_n hx hb dL_law_177 rfl (lv_at hl 2 rfl) ?_
  refine lv_aload_n hx hb dL_law_178 rfl (lv_at hl 0 rfl) ?_
  refine lv_iload_n hx hb dL_law_179 rfl (lv_at hl 3 rfl) ?_
  refine lv_iconst (v := 1) hx hb dL_law_180 (by decide) ?_
  refine lv_iadd hx hb dL_law_181 ?_
  refine lv_eqi (y := 2) (by decide) ?_
  refine va_sld hx hb hX hbl hbA hS (vp_in_nI (n := 2) (by decide) (by decide)) dL_law_182 ?_
  refine lv_eqi (y := xs 2) rfl ?_
  refine lv_aload_n hx hb dL_law_183 rfl (lv_at hl 0 rfl) ?_
  refine lv_iload_n hx hb dL_law_184 rfl (lv_at hl 3 rfl) ?_
  refine lv_iconst (v := 2) hx hb dL_law_185 (by decide) ?_
  refine lv_iadd hx hb dL_law_186 ?_
  refine lv_eqi (y := 3) (by decide) ?_
  refine va_sld hx hb hX hbl hbA hS (vp_in_nI (n := 3) (by decide) (by decide)) dL_law_187 ?_
  refine lv_eqi (y := xs 3) rfl ?_
  refine lv_aload_n hx hb dL_law_188 rfl (lv_at hl 0 rfl) ?_
  refine lv_iload_n hx hb dL_law_189 rfl (lv_at hl 3 rfl) ?_
  refine lv_iconst (v := 3) hx hb dL_law_190 (by decide) ?_
  refine lv_iadd hx hb dL_law_191 ?_
  refine lv_eqi (y := 4) (by decide) ?_
  refine va_sld hx hb hX hbl hbA hS (vp_in_nI (n := 4) (by decide) (by decide)) dL_law_192 ?_
  refine lv_eqi (y := xs 4) rfl ?_
  refine lv_aload_n hx hb dL_law_193 rfl (lv_at hl 0 rfl) ?_
  refine lv_iload_n hx hb dL_law_194 rfl (lv_at hl 3 rfl) ?_
  refine lv_iconst (v := 4) hx hb dL_law_195 (by decide) ?_
  refine lv_iadd hx hb dL_law_196 ?_
  refine lv_eqi (y := 5) (by decide) ?_
  refine va_sld hx hb hX hbl hbA hS (vp_in_nI (n := 5) (by decide) (by decide)) dL_law_197 ?_
  refine lv_eqi (y := xs 5) rfl ?_
  refine lv_aload_n hx hb dL_law_198 rfl (lv_at hl 0 rfl) ?_
  refine lv_iload_n hx hb dL_law_199 rfl (lv_at hl 3 rfl) ?_
  refine lv_iconst (v := 5) hx hb dL_law_200 (by decide) ?_
  refine lv_iadd hx hb dL_law_201 ?_
  refine lv_eqi (y := 6) (by decide) ?_
  refine va_sld hx hb hX hbl hbA hS (vp_in_nI (n := 6) (by decide) (by decide)) dL_law_202 ?_
  refine lv_eqi (y := xs 6) rfl ?_
  have hPc := hP.sub (ws' := [(mm, .inr (11, [.int (nI jn), .ref (um 0), .ref (um 1), .int 0, .int 0, .ref (um 2), .int 0, .int (-1), .int (-1), .int 0, .int 0, .int 0, .int 0, .int 0, .ref (um 3), .ref (um 4), .ref (um 5), .ref (um 6), .ref (um 7), .int 0, .int 0, .int 0, .ref (um 8), .ref (um 9), .ref (um 10), .int 0, .int 0, .ref (um 11), .int 0, .int 0, .ref (um 12), .ref (um 13), .ref (um 14), .ref (um 15), .ref (um 16), .int 0, .ref (um 17), .ref (um 18), .ref (um 19), .ref (um 20), .ref (um 21), .ref (um 22), .int 0, .int 0, .int 0, .ref (um 23), .ref (um 24)])), (um 2, .inl (cI, 300, .inl (fun _ => 0)))]) [0, 1] rfl
  have hDc := hD.sub (ws' := [(mm, .inr (11, [.int (nI jn), .ref (um 0), .ref (um 1), .int 0, .int 0, .ref (um 2), .int 0, .int (-1), .int (-1), .int 0, .int 0, .int 0, .int 0, .int 0, .ref (um 3), .ref (um 4), .ref (um 5), .ref (um 6), .ref (um 7), .int 0, .int 0, .int 0, .ref (um 8), .ref (um 9), .ref (um 10), .int 0, .int 0, .ref (um 11), .int 0, .int 0, .ref (um 12), .ref (um 13), .ref (um 14), .ref (um 15), .ref (um 16), .int 0, .ref (um 17), .ref (um 18), .ref (um 19), .ref (um 20), .ref (um 21), .ref (um 22), .int 0, .int 0, .int 0, .ref (um 23), .ref (um 24)])), (um 2, .inl (cI, 300, .inl (fun _ => 0)))]) [0, 1] (by decide) rfl
  refine call_g (wr := []) (va_runV (As := [.int (xs 2), .int (xs 3), .int (xs 4), .int (xs 5), .int (xs 6)]) (rest := [.int (nI 20)]) ⟨hx, hb, hml, hown, hts⟩ (c_mfeed l D cI cR cM _ (xs 2) (xs 3) (xs 4) (xs 5) (xs 6) mm (.int (nI jn)) (.ref (um 0)) (.ref (um 1)) (.int 0) (.int 0) (.int (-1)) (.int (-1)) (.int 0) (.int 0) (.int 0) (.int 0) (.int 0) (.ref (um 3)) (.ref (um 4)) (.ref (um 5)) (.ref (um 6)) (.ref (um 7)) (.int 0) (.int 0) (.int 0) (.ref (um 8)) (.ref (um 9)) (.ref (um 10)) (.int 0) (.int 0) (.ref (um 11)) (.int 0) (.int 0) (.ref (um 12)) (.ref (um 13)) (.ref (um 14)) (.ref (um 15)) (.ref (um 16)) (.int 0) (.ref (um 17)) (.ref (um 18)) (.ref (um 19)) (.ref (um 20)) (.ref (um 21)) (.ref (um 22)) (.int 0) (.int 0) (.int 0) (.ref (um 23)) (.ref (um 24)) (um 2)) (cwV 5 hts gL_law_X11_feed rfl rfl rfl (by decide +kernel) ⟨Nat.le_of_ble_eq_true rfl, Nat.le_of_ble_eq_true rfl⟩) (pre_V hK hPc hDc 0 11 rfl rfl) rfl rfl hl.1 rfl (lv_room (Nat.le_of_ble_eq_true rfl)) dL_law_203 ⟨Nat.le_of_ble_eq_true rfl, Nat.le_of_ble_eq_true rfl⟩) hP hD hS hA [0, 1] [] rfl rfl (by decide) (by decide) (fun _u H locs hw hP hD hS => ?_)
  have hP : va_P D vwCl [] H := hP
  have hD : va_D A [] := hD
  refine lv_icmp_eq (tgt := 947) hx hb dL_law_206 (by decide) (fun c206 => ?_) (fun c206 => absurd (rfl) c206)
  exact law_end C0 _ _ _ hS (lv_sub hl [0, 3] rfl)
set_option maxRecDepth 100000 in
set_option maxHeartbeats 4000000 in
theorem law_c1 {p : Program} {l : Launch} {e : Env} {s : State} {m : MethodId} {below : List Frame} {meth : Method} {c : Code} {b : Nat} {xs : Nat → Int32} {A : Nat → Prop} {D : va_G} {cI cR cM : ClassId} {jn : Nat} {hh mm : Nat} {uh um : Nat → Nat} {H : Heap} {locs : List Loc} {ls : Array Slot} (C : LC p s m meth c b 7 xs A D cI cR cM) (hP : va_P D vwCl [(hh, .inr (10, [.int (nI jn), .ref (uh 0), .ref (uh 1), .ref (uh 2), .ref (uh 3), .ref (uh 4), .ref (uh 5), .ref (uh 6)])), (uh 0, .inr (7, [.ref (uh 7), .int 0])), (mm, .inr (11, [.int (nI jn), .ref (um 0), .ref (um 1), .int 0, .int 0, .ref (um 2), .int 0, .int (-1), .int (-1), .int 0, .int 0, .int 0, .int 0, .int 0, .ref (um 3), .ref (um 4), .ref (um 5), .ref (um 6), .ref (um 7), .int 0, .int 0, .int 0, .ref (um 8), .ref (um 9), .ref (um 10), .int 0, .int 0, .ref (um 11), .int 0, .int 0, .ref (um 12), .ref (um 13), .ref (um 14), .ref (um 15), .ref (um 16), .int 0, .ref (um 17), .ref (um 18), .ref (um 19), .ref (um 20), .ref (um 21), .ref (um 22), .int 0, .int 0, .int 0, .ref (um 23), .ref (um 24)]))] H) (hD : va_D A [(hh, .inr (10, [.int (nI jn), .ref (uh 0), .ref (uh 1), .ref (uh 2), .ref (uh 3), .ref (uh 4), .ref (uh 5), .ref (uh 6)])), (uh 0, .inr (7, [.ref (uh 7), .int 0])), (mm, .inr (11, [.int (nI jn), .ref (um 0), .ref (um 1), .int 0, .int 0, .ref (um 2), .int 0, .int (-1), .int (-1), .int 0, .int 0, .int 0, .int 0, .int 0, .ref (um 3), .ref (um 4), .ref (um 5), .ref (um 6), .ref (um 7), .int 0, .int 0, .int 0, .ref (um 8), .ref (um 9), .ref (um 10), .int 0, .int 0, .ref (um 11), .int 0, .int 0, .ref (um 12), .ref (um 13), .ref (um 14), .ref (um 15), .ref (um 16), .int 0, .ref (um 17), .ref (um 18), .ref (um 19), .ref (um 20), .ref (um 21), .ref (um 22), .int 0, .int 0, .int 0, .ref (um 23), .ref (um 24)]))]) (hS : va_S A s.heap H locs) (hl : lv_has ls 4 [(0, .ref b), (1, .ref hh), (2, .ref mm), (3, .int 1)]) : W p l e room_1 s m #[Value.ref b] below meth c H locs 92 95787 (lw_Z below #[Value.ref b] s) (F0 m 211 ls []) := by
  have C0 := C
  obtain ⟨hx, hb, hr, hml, hown, hts, hX, hbl, hlocks, hK, hA, hA2⟩ := C
  have hbA : ¬ A b := fun q => absurd (hA2 b q) (Nat.not_le.mpr hbl)
  refine lv_aload_n hx hb dL_law_211 rfl (lv_at hl 1 rfl) ?_
  refine lv_aload_n hx hb dL_law_212 rfl (lv_at hl 0 rfl) ?_
  refine lv_iload_n hx hb dL_law_213 rfl (lv_at hl 3 rfl) ?_
  refine lv_iconst (v := 1) hx hb dL_law_214 (by decide) ?_
  refine lv_iadd hx hb dL_law_215 ?_
  refine lv_eqi (y := 2) (by decide) ?_
  refine va_sld hx hb hX hbl hbA hS (vp_in_nI (n := 2) (by decide) (by decide)) dL_law_216 ?_
  refine lv_eqi (y := xs 2) rfl ?_
  have hPc := hP.sub (ws' := [(hh, .inr (10, [.int (nI jn), .ref (uh 0), .ref (uh 1), .ref (uh 2), .ref (uh 3), .ref (uh 4), .ref (uh 5), .ref (uh 6)])), (uh 0, .inr (7, [.ref (uh 7), .int 0]))]) [0, 1] rfl
  have hDc := hD.sub (ws' := [(hh, .inr (10, [.int (nI jn), .ref (uh 0), .ref (uh 1), .ref (uh 2), .ref (uh 3), .ref (uh 4), .ref (uh 5), .ref (uh 6)])), (uh 0, .inr (7, [.ref (uh 7), .int 0]))]) [0, 1] (by decide) rfl
  refine call_g (wr := [(mm, .inr (11, [.int (nI jn), .ref (um 0), .ref (um 1), .int 0, .int 0, .ref (um 2), .int 0, .int (-1), .int (-1), .int 0, .int 0, .int 0, .int 0, .int 0, .ref (um 3), .ref (um 4), .ref (um 5), .ref (um 6), .ref (um 7), .int 0, .int 0, .int 0, .ref (um 8), .ref (um 9), .ref (um 10), .int 0, .int 0, .ref (um 11), .int 0, .int 0, .ref (um 12), .ref (um 13), .ref (um 14), .ref (um 15), .ref (um 16), .int 0, .ref (um 17), .ref (um 18), .ref (um 19), .ref (um 20), .ref (um 21), .ref (um 22), .int 0, .int 0, .int 0, .ref (um 23), .ref (um 24)]))]) (va_runV (As := [.int (xs 2)]) (rest := []) ⟨hx, hb, hml, hown, hts⟩ (c_end l D cI cR cM _ (xs 2) hh (.int (nI jn)) (.ref (uh 1)) (.ref (uh 2)) (.ref (uh 3)) (.ref (uh 4)) (.ref (uh 5)) (.ref (uh 6)) (uh 0) (uh 7)) (cwV 1 hts gL_law_X10_end rfl rfl rfl (by decide +kernel) ⟨Nat.le_of_ble_eq_true rfl, Nat.le_of_ble_eq_true rfl⟩) (pre_V hK hPc hDc 0 10 rfl rfl) rfl rfl hl.1 rfl (lv_room (Nat.le_of_ble_eq_true rfl)) dL_law_217 ⟨Nat.le_of_ble_eq_true rfl, Nat.le_of_ble_eq_true rfl⟩) hP hD hS hA [0, 1] [2] rfl rfl (by decide) (by decide) (fun _u H locs hw hP hD hS => ?_)
  have hP : va_P D vwCl [(mm, .inr (11, [.int (nI jn), .ref (um 0), .ref (um 1), .int 0, .int 0, .ref (um 2), .int 0, .int (-1), .int (-1), .int 0, .int 0, .int 0, .int 0, .int 0, .ref (um 3), .ref (um 4), .ref (um 5), .ref (um 6), .ref (um 7), .int 0, .int 0, .int 0, .ref (um 8), .ref (um 9), .ref (um 10), .int 0, .int 0, .ref (um 11), .int 0, .int 0, .ref (um 12), .ref (um 13), .ref (um 14), .ref (um 15), .ref (um 16), .int 0, .ref (um 17), .ref (um 18), .ref (um 19), .ref (um 20), .ref (um 21), .ref (um 22), .int 0, .int 0, .int 0, .ref (um 23), .ref (um 24)]))] H := hP
  have hD : va_D A [(mm, .inr (11, [.int (nI jn), .ref (um 0), .ref (um 1), .int 0, .int 0, .ref (um 2), .int 0, .int (-1), .int (-1), .int 0, .int 0, .int 0, .int 0, .int 0, .ref (um 3), .ref (um 4), .ref (um 5), .ref (um 6), .ref (um 7), .int 0, .int 0, .int 0, .ref (um 8), .ref (um 9), .ref (um 10), .int 0, .int 0, .ref (um 11), .int 0, .int 0, .ref (um 12), .ref (um 13), .ref (um 14), .ref (um 15), .ref (um 16), .int 0, .ref (um 17), .ref (um 18), .ref (um 19), .ref (um 20), .ref (um 21), .ref (um 22), .int 0, .int 0, .int 0, .ref (um 23), .ref (um 24)]))] := hD
  refine lv_aload_n hx hb dL_law_220 rfl (lv_at hl 2 rfl) ?_
  refine lv_aload_n hx hb dL_law_221 rfl (lv_at hl 0 rfl) ?_
  refine lv_iload_n hx hb dL_law_222 rfl (lv_at hl 3 rfl) ?_
  refine lv_iconst (v := 1) hx hb dL_law_223 (by decide) ?_
  refine lv_iadd hx hb dL_law_224 ?_
  refine lv_eqi (y := 2) (by decide) ?_
  refine va_sld hx hb hX hbl hbA hS (vp_in_nI (n := 2) (by decide) (by decide)) dL_law_225 ?_
  refine lv_eqi (y := xs 2) rfl ?_
  have hPc := hP.sub (ws' := [(mm, .inr (11, [.int (nI jn), .ref (um 0), .ref (um 1), .int 0, .int 0, .ref (um 2), .int 0, .int (-1), .int (-1), .int 0, .int 0, .int 0, .int 0, .int 0, .ref (um 3), .ref (um 4), .ref (um 5), .ref (um 6), .ref (um 7), .int 0, .int 0, .int 0, .ref (um 8), .ref (um 9), .ref (um 10), .int 0, .int 0, .ref (um 11), .int 0, .int 0, .ref (um 12), .ref (um 13), .ref (um 14), .ref (um 15), .ref (um 16), .int 0, .ref (um 17), .ref (um 18), .ref (um 19), .ref (um 20), .ref (um 21), .ref (um 22), .int 0, .int 0, .int 0, .ref (um 23), .ref (um 24)]))]) [0] rfl
  have hDc := hD.sub (ws' := [(mm, .inr (11, [.int (nI jn), .ref (um 0), .ref (um 1), .int 0, .int 0, .ref (um 2), .int 0, .int (-1), .int (-1), .int 0, .int 0, .int 0, .int 0, .int 0, .ref (um 3), .ref (um 4), .ref (um 5), .ref (um 6), .ref (um 7), .int 0, .int 0, .int 0, .ref (um 8), .ref (um 9), .ref (um 10), .int 0, .int 0, .ref (um 11), .int 0, .int 0, .ref (um 12), .ref (um 13), .ref (um 14), .ref (um 15), .ref (um 16), .int 0, .ref (um 17), .ref (um 18), .ref (um 19), .ref (um 20), .ref (um 21), .ref (um 22), .int 0, .int 0, .int 0, .ref (um 23), .ref (um 24)]))]) [0] (by decide) rfl
  refine call_g (wr := []) (va_runV (As := [.int (xs 2)]) (rest := [.int (if xs 2 = 0 then 0 else -1)]) ⟨hx, hb, hml, hown, hts⟩ (c_mend l D cI cR cM _ (xs 2) mm (.int (nI jn)) (.ref (um 0)) (.ref (um 1)) (.int 0) (.int 0) (.ref (um 2)) (.int (-1)) (.int (-1)) (.int 0) (.int 0) (.int 0) (.int 0) (.int 0) (.ref (um 3)) (.ref (um 4)) (.ref (um 5)) (.ref (um 6)) (.ref (um 7)) (.int 0) (.int 0) (.int 0) (.ref (um 8)) (.ref (um 9)) (.ref (um 10)) (.int 0) (.int 0) (.ref (um 11)) (.int 0) (.int 0) (.ref (um 12)) (.ref (um 13)) (.ref (um 14)) (.ref (um 15)) (.ref (um 16)) (.int 0) (.ref (um 17)) (.ref (um 18)) (.ref (um 19)) (.ref (um 20)) (.ref (um 21)) (.ref (um 22)) (.int 0) (.int 0) (.int 0) (.ref (um 23)) (.ref (um 24))) (cwV 1 hts gL_law_X11_end rfl rfl rfl (by decide +kernel) ⟨Nat.le_of_ble_eq_true rfl, Nat.le_of_ble_eq_true rfl⟩) (pre_V hK hPc hDc 0 11 rfl rfl) rfl rfl hl.1 rfl (lv_room (Nat.le_of_ble_eq_true rfl)) dL_law_226 ⟨Nat.le_of_ble_eq_true rfl, Nat.le_of_ble_eq_true rfl⟩) hP hD hS hA [0] [] rfl rfl (by decide) (by decide) (fun _u H locs hw hP hD hS => ?_)
  have hP : va_P D vwCl [] H := hP
  have hD : va_D A [] := hD
  refine lv_icmp_eq (tgt := 947) hx hb dL_law_229 (by decide) (fun c229 => ?_) (fun c229 => absurd (rfl) c229)
  exact law_end C0 _ _ _ hS (lv_sub hl [0, 3] rfl)
set_option maxRecDepth 100000 in
set_option maxHeartbeats 4000000 in
theorem law_c2 {p : Program} {l : Launch} {e : Env} {s : State} {m : MethodId} {below : List Frame} {meth : Method} {c : Code} {b : Nat} {xs : Nat → Int32} {A : Nat → Prop} {D : va_G} {cI cR cM : ClassId} {jn : Nat} {hh mm : Nat} {uh um : Nat → Nat} {H : Heap} {locs : List Loc} {ls : Array Slot} (C : LC p s m meth c b 7 xs A D cI cR cM) (hP : va_P D vwCl [(hh, .inr (10, [.int (nI jn), .ref (uh 0), .ref (uh 1), .ref (uh 2), .ref (uh 3), .ref (uh 4), .ref (uh 5), .ref (uh 6)])), (uh 0, .inr (7, [.ref (uh 7), .int 0])), (uh 1, .inr (0, [.ref (uh 8), .ref (uh 9), .int 0, .int 0])), (uh 8, .inl (cR, 488, .inr (.inr (.inr (.inr (fun _ => none)))))), (uh 9, .inl (cM, 61, .inr (.inr (.inr (.inr (fun _ => none)))))), (uh 2, .inr (4, [.int (nI jn), .ref (uh 10), .ref (uh 1), .ref (uh 14), .ref (uh 15), .ref (uh 16), .ref (uh 17), .ref (uh 18), .ref (uh 19), .int (-1), .int (-1)])), (uh 16, .inl (cR, 8, .inr (.inr (.inr (.inr (va_up (va_up (va_up (va_up (va_up (va_up (va_up (va_up (fun _ => none) 0 (some (uh 21))) 1 (some (uh 23))) 2 (some (uh 25))) 3 (some (uh 27))) 4 (some (uh 29))) 5 (some (uh 31))) 6 (some (uh 33))) 7 (some (uh 35)))))))), (uh 19, .inr (3, [.ref (uh 20), .int 0])), (uh 21, .inr (5, [.int (nI jn), .int (nI (jn * 2)), .ref (uh 22), .int 0])), (uh 23, .inr (5, [.int (nI jn), .int (nI (jn * 2)), .ref (uh 24), .int 0])), (uh 25, .inr (5, [.int (nI jn), .int (nI (jn * 2)), .ref (uh 26), .int 0])), (uh 27, .inr (5, [.int (nI jn), .int (nI (jn * 2)), .ref (uh 28), .int 0])), (uh 29, .inr (5, [.int (nI jn), .int (nI (jn * 2)), .ref (uh 30), .int 0])), (uh 31, .inr (5, [.int (nI jn), .int (nI (jn * 2)), .ref (uh 32), .int 0])), (uh 33, .inr (5, [.int (nI jn), .int (nI (jn * 2)), .ref (uh 34), .int 0])), (uh 35, .inr (5, [.int (nI jn), .int (nI (jn * 2)), .ref (uh 36), .int 0])), (uh 10, .inr (8, [.ref (uh 0), .ref (uh 11), .ref (uh 12), .ref (uh 13), .int 0, .int 0, .int 0, .int 0, .int 0, .int 0])), (uh 11, .inl (cI, 301, .inl (fun _ => 0))), (uh 12, .inl (cI, 301, .inl (fun _ => 0))), (uh 13, .inl (cI, 301, .inl (fun _ => 0))), (mm, .inr (11, [.int (nI jn), .ref (um 0), .ref (um 1), .int 0, .int 0, .ref (um 2), .int 0, .int (-1), .int (-1), .int 0, .int 0, .int 0, .int 0, .int 0, .ref (um 3), .ref (um 4), .ref (um 5), .ref (um 6), .ref (um 7), .int 0, .int 0, .int 0, .ref (um 8), .ref (um 9), .ref (um 10), .int 0, .int 0, .ref (um 11), .int 0, .int 0, .ref (um 12), .ref (um 13), .ref (um 14), .ref (um 15), .ref (um 16), .int 0, .ref (um 17), .ref (um 18), .ref (um 19), .ref (um 20), .ref (um 21), .ref (um 22), .int 0, .int 0, .int 0, .ref (um 23), .ref (um 24)])), (um 8, .inl (cI, 8, .inl (fun _ => 0))), (um 10, .inl (cI, 8, .inl (fun _ => 0))), (um 0, .inl (cI, 73200, .inl (fun _ => 0))), (um 1, .inl (cI, 488, .inl (fun _ => 0)))] H) (hD : va_D A [(hh, .inr (10, [.int (nI jn), .ref (uh 0), .ref (uh 1), .ref (uh 2), .ref (uh 3), .ref (uh 4), .ref (uh 5), .ref (uh 6)])), (uh 0, .inr (7, [.ref (uh 7), .int 0])), (uh 1, .inr (0, [.ref (uh 8), .ref (uh 9), .int 0, .int 0])), (uh 8, .inl (cR, 488, .inr (.inr (.inr (.inr (fun _ => none)))))), (uh 9, .inl (cM, 61, .inr (.inr (.inr (.inr (fun _ => none)))))), (uh 2, .inr (4, [.int (nI jn), .ref (uh 10), .ref (uh 1), .ref (uh 14), .ref (uh 15), .ref (uh 16), .ref (uh 17), .ref (uh 18), .ref (uh 19), .int (-1), .int (-1)])), (uh 16, .inl (cR, 8, .inr (.inr (.inr (.inr (va_up (va_up (va_up (va_up (va_up (va_up (va_up (va_up (fun _ => none) 0 (some (uh 21))) 1 (some (uh 23))) 2 (some (uh 25))) 3 (some (uh 27))) 4 (some (uh 29))) 5 (some (uh 31))) 6 (some (uh 33))) 7 (some (uh 35)))))))), (uh 19, .inr (3, [.ref (uh 20), .int 0])), (uh 21, .inr (5, [.int (nI jn), .int (nI (jn * 2)), .ref (uh 22), .int 0])), (uh 23, .inr (5, [.int (nI jn), .int (nI (jn * 2)), .ref (uh 24), .int 0])), (uh 25, .inr (5, [.int (nI jn), .int (nI (jn * 2)), .ref (uh 26), .int 0])), (uh 27, .inr (5, [.int (nI jn), .int (nI (jn * 2)), .ref (uh 28), .int 0])), (uh 29, .inr (5, [.int (nI jn), .int (nI (jn * 2)), .ref (uh 30), .int 0])), (uh 31, .inr (5, [.int (nI jn), .int (nI (jn * 2)), .ref (uh 32), .int 0])), (uh 33, .inr (5, [.int (nI jn), .int (nI (jn * 2)), .ref (uh 34), .int 0])), (uh 35, .inr (5, [.int (nI jn), .int (nI (jn * 2)), .ref (uh 36), .int 0])), (uh 10, .inr (8, [.ref (uh 0), .ref (uh 11), .ref (uh 12), .ref (uh 13), .int 0, .int 0, .int 0, .int 0, .int 0, .int 0])), (uh 11, .inl (cI, 301, .inl (fun _ => 0))), (uh 12, .inl (cI, 301, .inl (fun _ => 0))), (uh 13, .inl (cI, 301, .inl (fun _ => 0))), (mm, .inr (11, [.int (nI jn), .ref (um 0), .ref (um 1), .int 0, .int 0, .ref (um 2), .int 0, .int (-1), .int (-1), .int 0, .int 0, .int 0, .int 0, .int 0, .ref (um 3), .ref (um 4), .ref (um 5), .ref (um 6), .ref (um 7), .int 0, .int 0, .int 0, .ref (um 8), .ref (um 9), .ref (um 10), .int 0, .int 0, .ref (um 11), .int 0, .int 0, .ref (um 12), .ref (um 13), .ref (um 14), .ref (um 15), .ref (um 16), .int 0, .ref (um 17), .ref (um 18), .ref (um 19), .ref (um 20), .ref (um 21), .ref (um 22), .int 0, .int 0, .int 0, .ref (um 23), .ref (um 24)])), (um 8, .inl (cI, 8, .inl (fun _ => 0))), (um 10, .inl (cI, 8, .inl (fun _ => 0))), (um 0, .inl (cI, 73200, .inl (fun _ => 0))), (um 1, .inl (cI, 488, .inl (fun _ => 0)))]) (hS : va_S A s.heap H locs) (hl : lv_has ls 4 [(0, .ref b), (1, .ref hh), (2, .ref mm), (3, .int 1)]) : W p l e room_1 s m #[Value.ref b] below meth c H locs 92 95787 (lw_Z below #[Value.ref b] s) (F0 m 234 ls []) := by
  have C0 := C
  obtain ⟨hx, hb, hr, hml, hown, hts, hX, hbl, hlocks, hK, hA, hA2⟩ := C
  have hbA : ¬ A b := fun q => absurd (hA2 b q) (Nat.not_le.mpr hbl)
  refine lv_aload_n hx hb dL_law_234 rfl (lv_at hl 1 rfl) ?_
  have hPc := hP.sub (ws' := [(hh, .inr (10, [.int (nI jn), .ref (uh 0), .ref (uh 1), .ref (uh 2), .ref (uh 3), .ref (uh 4), .ref (uh 5), .ref (uh 6)])), (uh 0, .inr (7, [.ref (uh 7), .int 0])), (uh 1, .inr (0, [.ref (uh 8), .ref (uh 9), .int 0, .int 0])), (uh 8, .inl (cR, 488, .inr (.inr (.inr (.inr (fun _ => none)))))), (uh 9, .inl (cM, 61, .inr (.inr (.inr (.inr (fun _ => none)))))), (uh 2, .inr (4, [.int (nI jn), .ref (uh 10), .ref (uh 1), .ref (uh 14), .ref (uh 15), .ref (uh 16), .ref (uh 17), .ref (uh 18), .ref (uh 19), .int (-1), .int (-1)])), (uh 16, .inl (cR, 8, .inr (.inr (.inr (.inr (va_up (va_up (va_up (va_up (va_up (va_up (va_up (va_up (fun _ => none) 0 (some (uh 21))) 1 (some (uh 23))) 2 (some (uh 25))) 3 (some (uh 27))) 4 (some (uh 29))) 5 (some (uh 31))) 6 (some (uh 33))) 7 (some (uh 35)))))))), (uh 19, .inr (3, [.ref (uh 20), .int 0])), (uh 21, .inr (5, [.int (nI jn), .int (nI (jn * 2)), .ref (uh 22), .int 0])), (uh 23, .inr (5, [.int (nI jn), .int (nI (jn * 2)), .ref (uh 24), .int 0])), (uh 25, .inr (5, [.int (nI jn), .int (nI (jn * 2)), .ref (uh 26), .int 0])), (uh 27, .inr (5, [.int (nI jn), .int (nI (jn * 2)), .ref (uh 28), .int 0])), (uh 29, .inr (5, [.int (nI jn), .int (nI (jn * 2)), .ref (uh 30), .int 0])), (uh 31, .inr (5, [.int (nI jn), .int (nI (jn * 2)), .ref (uh 32), .int 0])), (uh 33, .inr (5, [.int (nI jn), .int (nI (jn * 2)), .ref (uh 34), .int 0])), (uh 35, .inr (5, [.int (nI jn), .int (nI (jn * 2)), .ref (uh 36), .int 0])), (uh 10, .inr (8, [.ref (uh 0), .ref (uh 11), .ref (uh 12), .ref (uh 13), .int 0, .int 0, .int 0, .int 0, .int 0, .int 0])), (uh 11, .inl (cI, 301, .inl (fun _ => 0))), (uh 12, .inl (cI, 301, .inl (fun _ => 0))), (uh 13, .inl (cI, 301, .inl (fun _ => 0)))]) [0, 1, 2, 3, 4, 5, 6, 7, 8, 9, 10, 11, 12, 13, 14, 15, 16, 17, 18, 19] rfl
  have hDc := hD.sub (ws' := [(hh, .inr (10, [.int (nI jn), .ref (uh 0), .ref (uh 1), .ref (uh 2), .ref (uh 3), .ref (uh 4), .ref (uh 5), .ref (uh 6)])), (uh 0, .inr (7, [.ref (uh 7), .int 0])), (uh 1, .inr (0, [.ref (uh 8), .ref (uh 9), .int 0, .int 0])), (uh 8, .inl (cR, 488, .inr (.inr (.inr (.inr (fun _ => none)))))), (uh 9, .inl (cM, 61, .inr (.inr (.inr (.inr (fun _ => none)))))), (uh 2, .inr (4, [.int (nI jn), .ref (uh 10), .ref (uh 1), .ref (uh 14), .ref (uh 15), .ref (uh 16), .ref (uh 17), .ref (uh 18), .ref (uh 19), .int (-1), .int (-1)])), (uh 16, .inl (cR, 8, .inr (.inr (.inr (.inr (va_up (va_up (va_up (va_up (va_up (va_up (va_up (va_up (fun _ => none) 0 (some (uh 21))) 1 (some (uh 23))) 2 (some (uh 25))) 3 (some (uh 27))) 4 (some (uh 29))) 5 (some (uh 31))) 6 (some (uh 33))) 7 (some (uh 35)))))))), (uh 19, .inr (3, [.ref (uh 20), .int 0])), (uh 21, .inr (5, [.int (nI jn), .int (nI (jn * 2)), .ref (uh 22), .int 0])), (uh 23, .inr (5, [.int (nI jn), .int (nI (jn * 2)), .ref (uh 24), .int 0])), (uh 25, .inr (5, [.int (nI jn), .int (nI (jn * 2)), .ref (uh 26), .int 0])), (uh 27, .inr (5, [.int (nI jn), .int (nI (jn * 2)), .ref (uh 28), .int 0])), (uh 29, .inr (5, [.int (nI jn), .int (nI (jn * 2)), .ref (uh 30), .int 0])), (uh 31, .inr (5, [.int (nI jn), .int (nI (jn * 2)), .ref (uh 32), .int 0])), (uh 33, .inr (5, [.int (nI jn), .int (nI (jn * 2)), .ref (uh 34), .int 0])), (uh 35, .inr (5, [.int (nI jn), .int (nI (jn * 2)), .ref (uh 36), .int 0])), (uh 10, .inr (8, [.ref (uh 0), .ref (uh 11), .ref (uh 12), .ref (uh 13), .int 0, .int 0, .int 0, .int 0, .int 0, .int 0])), (uh 11, .inl (cI, 301, .inl (fun _ => 0))), (uh 12, .inl (cI, 301, .inl (fun _ => 0))), (uh 13, .inl (cI, 301, .inl (fun _ => 0)))]) [0, 1, 2, 3, 4, 5, 6, 7, 8, 9, 10, 11, 12, 13, 14, 15, 16, 17, 18, 19] (by decide) rfl
  refine call_g (wr := [(mm, .inr (11, [.int (nI jn), .ref (um 0), .ref (um 1), .int 0, .int 0, .ref (um 2), .int 0, .int (-1), .int (-1), .int 0, .int 0, .int 0, .int 0, .int 0, .ref (um 3), .ref (um 4), .ref (um 5), .ref (um 6), .ref (um 7), .int 0, .int 0, .int 0, .ref (um 8), .ref (um 9), .ref (um 10), .int 0, .int 0, .ref (um 11), .int 0, .int 0, .ref (um 12), .ref (um 13), .ref (um 14), .ref (um 15), .ref (um 16), .int 0, .ref (um 17), .ref (um 18), .ref (um 19), .ref (um 20), .ref (um 21), .ref (um 22), .int 0, .int 0, .int 0, .ref (um 23), .ref (um 24)])), (um 8, .inl (cI, 8, .inl (fun _ => 0))), (um 10, .inl (cI, 8, .inl (fun _ => 0))), (um 0, .inl (cI, 73200, .inl (fun _ => 0))), (um 1, .inl (cI, 488, .inl (fun _ => 0)))]) (va_runV (As := []) (rest := []) ⟨hx, hb, hml, hown, hts⟩ (c_text l D cI cR cM _ hh (.int (nI jn)) (.ref (uh 3)) (.ref (uh 4)) (.ref (uh 5)) (.ref (uh 6)) (uh 8) (uh 9) (uh 10) (uh 0) (uh 11) (uh 12) (uh 13) (uh 7) (uh 2) (uh 1) (uh 16) (uh 19) (uh 21) (uh 23) (uh 25) (uh 27) (uh 29) (uh 31) (uh 33) (uh 35) (.int (nI jn)) (.ref (uh 14)) (.ref (uh 15)) (.ref (uh 17)) (.ref (uh 18)) (.ref (uh 20)) (.int (nI jn)) (.int (nI (jn * 2))) (.ref (uh 22)) (.int (nI jn)) (.int (nI (jn * 2))) (.ref (uh 24)) (.int (nI jn)) (.int (nI (jn * 2))) (.ref (uh 26)) (.int (nI jn)) (.int (nI (jn * 2))) (.ref (uh 28)) (.int (nI jn)) (.int (nI (jn * 2))) (.ref (uh 30)) (.int (nI jn)) (.int (nI (jn * 2))) (.ref (uh 32)) (.int (nI jn)) (.int (nI (jn * 2))) (.ref (uh 34)) (.int (nI jn)) (.int (nI (jn * 2))) (.ref (uh 36))) (cwV 0 hts gL_law_X10_text rfl rfl rfl (by decide +kernel) ⟨Nat.le_of_ble_eq_true rfl, Nat.le_of_ble_eq_true rfl⟩) (pre_V hK hPc hDc 0 10 rfl rfl) rfl rfl hl.1 rfl (lv_room (Nat.le_of_ble_eq_true rfl)) dL_law_235 ⟨Nat.le_of_ble_eq_true rfl, Nat.le_of_ble_eq_true rfl⟩) hP hD hS hA [0, 1, 2, 3, 4, 5, 6, 7, 8, 9, 10, 11, 12, 13, 14, 15, 16, 17, 18, 19] [20, 21, 22, 23, 24] rfl rfl (by decide) (by decide) (fun _u H locs hw hP hD hS => ?_)
  have hP : va_P D vwCl [(mm, .inr (11, [.int (nI jn), .ref (um 0), .ref (um 1), .int 0, .int 0, .ref (um 2), .int 0, .int (-1), .int (-1), .int 0, .int 0, .int 0, .int 0, .int 0, .ref (um 3), .ref (um 4), .ref (um 5), .ref (um 6), .ref (um 7), .int 0, .int 0, .int 0, .ref (um 8), .ref (um 9), .ref (um 10), .int 0, .int 0, .ref (um 11), .int 0, .int 0, .ref (um 12), .ref (um 13), .ref (um 14), .ref (um 15), .ref (um 16), .int 0, .ref (um 17), .ref (um 18), .ref (um 19), .ref (um 20), .ref (um 21), .ref (um 22), .int 0, .int 0, .int 0, .ref (um 23), .ref (um 24)])), (um 8, .inl (cI, 8, .inl (fun _ => 0))), (um 10, .inl (cI, 8, .inl (fun _ => 0))), (um 0, .inl (cI, 73200, .inl (fun _ => 0))), (um 1, .inl (cI, 488, .inl (fun _ => 0)))] H := hP
  have hD : va_D A [(mm, .inr (11, [.int (nI jn), .ref (um 0), .ref (um 1), .int 0, .int 0, .ref (um 2), .int 0, .int (-1), .int (-1), .int 0, .int 0, .int 0, .int 0, .int 0, .ref (um 3), .ref (um 4), .ref (um 5), .ref (um 6), .ref (um 7), .int 0, .int 0, .int 0, .ref (um 8), .ref (um 9), .ref (um 10), .int 0, .int 0, .ref (um 11), .int 0, .int 0, .ref (um 12), .ref (um 13), .ref (um 14), .ref (um 15), .ref (um 16), .int 0, .ref (um 17), .ref (um 18), .ref (um 19), .ref (um 20), .ref (um 21), .ref (um 22), .int 0, .int 0, .int 0, .ref (um 23), .ref (um 24)])), (um 8, .inl (cI, 8, .inl (fun _ => 0))), (um 10, .inl (cI, 8, .inl (fun _ => 0))), (um 0, .inl (cI, 73200, .inl (fun _ => 0))), (um 1, .inl (cI, 488, .inl (fun _ => 0)))] := hD
  refine lv_aload_n hx hb dL_law_238 rfl (lv_at hl 2 rfl) ?_
  have hPc := hP.sub (ws' := [(mm, .inr (11, [.int (nI jn), .ref (um 0), .ref (um 1), .int 0, .int 0, .ref (um 2), .int 0, .int (-1), .int (-1), .int 0, .int 0, .int 0, .int 0, .int 0, .ref (um 3), .ref (um 4), .ref (um 5), .ref (um 6), .ref (um 7), .int 0, .int 0, .int 0, .ref (um 8), .ref (um 9), .ref (um 10), .int 0, .int 0, .ref (um 11), .int 0, .int 0, .ref (um 12), .ref (um 13), .ref (um 14), .ref (um 15), .ref (um 16), .int 0, .ref (um 17), .ref (um 18), .ref (um 19), .ref (um 20), .ref (um 21), .ref (um 22), .int 0, .int 0, .int 0, .ref (um 23), .ref (um 24)])), (um 8, .inl (cI, 8, .inl (fun _ => 0))), (um 10, .inl (cI, 8, .inl (fun _ => 0))), (um 0, .inl (cI, 73200, .inl (fun _ => 0))), (um 1, .inl (cI, 488, .inl (fun _ => 0)))]) [0, 1, 2, 3, 4] rfl
  have hDc := hD.sub (ws' := [(mm, .inr (11, [.int (nI jn), .ref (um 0), .ref (um 1), .int 0, .int 0, .ref (um 2), .int 0, .int (-1), .int (-1), .int 0, .int 0, .int 0, .int 0, .int 0, .ref (um 3), .ref (um 4), .ref (um 5), .ref (um 6), .ref (um 7), .int 0, .int 0, .int 0, .ref (um 8), .ref (um 9), .ref (um 10), .int 0, .int 0, .ref (um 11), .int 0, .int 0, .ref (um 12), .ref (um 13), .ref (um 14), .ref (um 15), .ref (um 16), .int 0, .ref (um 17), .ref (um 18), .ref (um 19), .ref (um 20), .ref (um 21), .ref (um 22), .int 0, .int 0, .int 0, .ref (um 23), .ref (um 24)])), (um 8, .inl (cI, 8, .inl (fun _ => 0))), (um 10, .inl (cI, 8, .inl (fun _ => 0))), (um 0, .inl (cI, 73200, .inl (fun _ => 0))), (um 1, .inl (cI, 488, .inl (fun _ => 0)))]) [0, 1, 2, 3, 4] (by decide) rfl
  refine call_g (wr := []) (va_runV (As := []) (rest := [.int 1]) ⟨hx, hb, hml, hown, hts⟩ (c_mtext l D cI cR cM _ mm (.int (nI jn)) (.int 0) (.ref (um 2)) (.int (-1)) (.int (-1)) (.int 0) (.int 0) (.int 0) (.int 0) (.int 0) (.ref (um 3)) (.ref (um 4)) (.ref (um 5)) (.ref (um 6)) (.ref (um 7)) (.int 0) (.int 0) (.int 0) (.ref (um 9)) (.int 0) (.int 0) (.ref (um 11)) (.int 0) (.int 0) (.ref (um 12)) (.ref (um 13)) (.ref (um 14)) (.ref (um 15)) (.ref (um 16)) (.int 0) (.ref (um 17)) (.ref (um 18)) (.ref (um 19)) (.ref (um 20)) (.ref (um 21)) (.ref (um 22)) (.int 0) (.int 0) (.int 0) (.ref (um 23)) (.ref (um 24)) (um 8) (um 10) (um 0) (um 1)) (cwV 0 hts gL_law_X11_text rfl rfl rfl (by decide +kernel) ⟨Nat.le_of_ble_eq_true rfl, Nat.le_of_ble_eq_true rfl⟩) (pre_V hK hPc hDc 0 11 rfl rfl) rfl rfl hl.1 rfl (lv_room (Nat.le_of_ble_eq_true rfl)) dL_law_239 ⟨Nat.le_of_ble_eq_true rfl, Nat.le_of_ble_eq_true rfl⟩) hP hD hS hA [0, 1, 2, 3, 4] [] rfl rfl (by decide) (by decide) (fun _u H locs hw hP hD hS => ?_)
  have hP : va_P D vwCl [] H := hP
  have hD : va_D A [] := hD
  refine lv_icmp_eq (tgt := 947) hx hb dL_law_242 (by decide) (fun c242 => ?_) (fun c242 => absurd (rfl) c242)
  exact law_end C0 _ _ _ hS (lv_sub hl [0, 3] rfl)
set_option maxRecDepth 100000 in
set_option maxHeartbeats 4000000 in
theorem law_c3 {p : Program} {l : Launch} {e : Env} {s : State} {m : MethodId} {below : List Frame} {meth : Method} {c : Code} {b : Nat} {xs : Nat → Int32} {A : Nat → Prop} {D : va_G} {cI cR cM : ClassId} {jn : Nat} {hh mm : Nat} {uh um : Nat → Nat} {H : Heap} {locs : List Loc} {ls : Array Slot} (C : LC p s m meth c b 7 xs A D cI cR cM) (hP : va_P D vwCl [(hh, .inr (10, [.int (nI jn), .ref (uh 0), .ref (uh 1), .ref (uh 2), .ref (uh 3), .ref (uh 4), .ref (uh 5), .ref (uh 6)])), (uh 2, .inr (4, [.int (nI jn), .ref (uh 10), .ref (uh 1), .ref (uh 14), .ref (uh 15), .ref (uh 16), .ref (uh 17), .ref (uh 18), .ref (uh 19), .int (-1), .int (-1)])), (mm, .inr (11, [.int (nI jn), .ref (um 0), .ref (um 1), .int 0, .int 0, .ref (um 2), .int 0, .int (-1), .int (-1), .int 0, .int 0, .int 0, .int 0, .int 0, .ref (um 3), .ref (um 4), .ref (um 5), .ref (um 6), .ref (um 7), .int 0, .int 0, .int 0, .ref (um 8), .ref (um 9), .ref (um 10), .int 0, .int 0, .ref (um 11), .int 0, .int 0, .ref (um 12), .ref (um 13), .ref (um 14), .ref (um 15), .ref (um 16), .int 0, .ref (um 17), .ref (um 18), .ref (um 19), .ref (um 20), .ref (um 21), .ref (um 22), .int 0, .int 0, .int 0, .ref (um 23), .ref (um 24)]))] H) (hD : va_D A [(hh, .inr (10, [.int (nI jn), .ref (uh 0), .ref (uh 1), .ref (uh 2), .ref (uh 3), .ref (uh 4), .ref (uh 5), .ref (uh 6)])), (uh 2, .inr (4, [.int (nI jn), .ref (uh 10), .ref (uh 1), .ref (uh 14), .ref (uh 15), .ref (uh 16), .ref (uh 17), .ref (uh 18), .ref (uh 19), .int (-1), .int (-1)])), (mm, .inr (11, [.int (nI jn), .ref (um 0), .ref (um 1), .int 0, .int 0, .ref (um 2), .int 0, .int (-1), .int (-1), .int 0, .int 0, .int 0, .int 0, .int 0, .ref (um 3), .ref (um 4), .ref (um 5), .ref (um 6), .ref (um 7), .int 0, .int 0, .int 0, .ref (um 8), .ref (um 9), .ref (um 10), .int 0, .int 0, .ref (um 11), .int 0, .int 0, .ref (um 12), .ref (um 13), .ref (um 14), .ref (um 15), .ref (um 16), .int 0, .ref (um 17), .ref (um 18), .ref (um 19), .ref (um 20), .ref (um 21), .ref (um 22), .int 0, .int 0, .int 0, .ref (um 23), .ref (um 24)]))]) (hS : va_S A s.heap H locs) (hl : lv_has ls 4 [(0, .ref b), (1, .ref hh), (2, .ref mm), (3, .int 1)]) : W p l e room_1 s m #[Value.ref b] below meth c H locs 92 95787 (lw_Z below #[Value.ref b] s) (F0 m 247 ls []) := by
  have C0 := C
  obtain ⟨hx, hb, hr, hml, hown, hts, hX, hbl, hlocks, hK, hA, hA2⟩ := C
  have hbA : ¬ A b := fun q => absurd (hA2 b q) (Nat.not_le.mpr hbl)
  refine lv_aload_n hx hb dL_law_247 rfl (lv_at hl 1 rfl) ?_
  refine lv_aload_n hx hb dL_law_248 rfl (lv_at hl 0 rfl) ?_
  refine lv_iload_n hx hb dL_law_249 rfl (lv_at hl 3 rfl) ?_
  refine lv_iconst (v := 1) hx hb dL_law_250 (by decide) ?_
  refine lv_iadd hx hb dL_law_251 ?_
  refine lv_eqi (y := 2) (by decide) ?_
  refine va_sld hx hb hX hbl hbA hS (vp_in_nI (n := 2) (by decide) (by decide)) dL_law_252 ?_
  refine lv_eqi (y := xs 2) rfl ?_
  have hPc := hP.sub (ws' := [(hh, .inr (10, [.int (nI jn), .ref (uh 0), .ref (uh 1), .ref (uh 2), .ref (uh 3), .ref (uh 4), .ref (uh 5), .ref (uh 6)])), (uh 2, .inr (4, [.int (nI jn), .ref (uh 10), .ref (uh 1), .ref (uh 14), .ref (uh 15), .ref (uh 16), .ref (uh 17), .ref (uh 18), .ref (uh 19), .int (-1), .int (-1)]))]) [0, 1] rfl
  have hDc := hD.sub (ws' := [(hh, .inr (10, [.int (nI jn), .ref (uh 0), .ref (uh 1), .ref (uh 2), .ref (uh 3), .ref (uh 4), .ref (uh 5), .ref (uh 6)])), (uh 2, .inr (4, [.int (nI jn), .ref (uh 10), .ref (uh 1), .ref (uh 14), .ref (uh 15), .ref (uh 16), .ref (uh 17), .ref (uh 18), .ref (uh 19), .int (-1), .int (-1)]))]) [0, 1] (by decide) rfl
  refine ro (va_runV (As := [.int (xs 2)]) (rest := []) ⟨hx, hb, hml, hown, hts⟩ (c_fault l D cI cR cM _ (xs 2) hh (.int (nI jn)) (.ref (uh 0)) (.ref (uh 1)) (.ref (uh 3)) (.ref (uh 4)) (.ref (uh 5)) (.ref (uh 6)) (uh 2) (.int (nI jn)) (.ref (uh 10)) (.ref (uh 1)) (.ref (uh 14)) (.ref (uh 15)) (.ref (uh 16)) (.ref (uh 17)) (.ref (uh 18)) (.ref (uh 19))) (cwV 1 hts gL_law_X10_fault rfl rfl rfl (by decide +kernel) ⟨Nat.le_of_ble_eq_true rfl, Nat.le_of_ble_eq_true rfl⟩) (pre_V hK hPc hDc 0 10 rfl rfl) rfl rfl hl.1 rfl (lv_room (Nat.le_of_ble_eq_true rfl)) dL_law_253 ⟨Nat.le_of_ble_eq_true rfl, Nat.le_of_ble_eq_true rfl⟩) hS hA hP (fun H locs hP hS => ?_)
  refine lv_aload_n hx hb dL_law_256 rfl (lv_at hl 2 rfl) ?_
  refine lv_aload_n hx hb dL_law_257 rfl (lv_at hl 0 rfl) ?_
  refine lv_iload_n hx hb dL_law_258 rfl (lv_at hl 3 rfl) ?_
  refine lv_iconst (v := 1) hx hb dL_law_259 (by decide) ?_
  refine lv_iadd hx hb dL_law_260 ?_
  refine lv_eqi (y := 2) (by decide) ?_
  refine va_sld hx hb hX hbl hbA hS (vp_in_nI (n := 2) (by decide) (by decide)) dL_law_261 ?_
  refine lv_eqi (y := xs 2) rfl ?_
  have hPc := hP.sub (ws' := [(mm, .inr (11, [.int (nI jn), .ref (um 0), .ref (um 1), .int 0, .int 0, .ref (um 2), .int 0, .int (-1), .int (-1), .int 0, .int 0, .int 0, .int 0, .int 0, .ref (um 3), .ref (um 4), .ref (um 5), .ref (um 6), .ref (um 7), .int 0, .int 0, .int 0, .ref (um 8), .ref (um 9), .ref (um 10), .int 0, .int 0, .ref (um 11), .int 0, .int 0, .ref (um 12), .ref (um 13), .ref (um 14), .ref (um 15), .ref (um 16), .int 0, .ref (um 17), .ref (um 18), .ref (um 19), .ref (um 20), .ref (um 21), .ref (um 22), .int 0, .int 0, .int 0, .ref (um 23), .ref (um 24)]))]) [2] rfl
  have hDc := hD.sub (ws' := [(mm, .inr (11, [.int (nI jn), .ref (um 0), .ref (um 1), .int 0, .int 0, .ref (um 2), .int 0, .int (-1), .int (-1), .int 0, .int 0, .int 0, .int 0, .int 0, .ref (um 3), .ref (um 4), .ref (um 5), .ref (um 6), .ref (um 7), .int 0, .int 0, .int 0, .ref (um 8), .ref (um 9), .ref (um 10), .int 0, .int 0, .ref (um 11), .int 0, .int 0, .ref (um 12), .ref (um 13), .ref (um 14), .ref (um 15), .ref (um 16), .int 0, .ref (um 17), .ref (um 18), .ref (um 19), .ref (um 20), .ref (um 21), .ref (um 22), .int 0, .int 0, .int 0, .ref (um 23), .ref (um 24)]))]) [2] (by decide) rfl
  refine ro (va_runV (As := [.int (xs 2)]) (rest := [.int (-1)]) ⟨hx, hb, hml, hown, hts⟩ (c_mfault l D cI cR cM _ (xs 2) mm [.int (nI jn), .ref (um 0), .ref (um 1), .int 0, .int 0, .ref (um 2), .int 0, .int (-1), .int (-1), .int 0, .int 0, .int 0, .int 0, .int 0, .ref (um 3), .ref (um 4), .ref (um 5), .ref (um 6), .ref (um 7), .int 0, .int 0, .int 0, .ref (um 8), .ref (um 9), .ref (um 10), .int 0, .int 0, .ref (um 11), .int 0, .int 0, .ref (um 12), .ref (um 13), .ref (um 14), .ref (um 15), .ref (um 16), .int 0, .ref (um 17), .ref (um 18), .ref (um 19), .ref (um 20), .ref (um 21), .ref (um 22), .int 0, .int 0, .int 0, .ref (um 23), .ref (um 24)] rfl rfl) (cwV 1 hts gL_law_X11_fault rfl rfl rfl (by decide +kernel) ⟨Nat.le_of_ble_eq_true rfl, Nat.le_of_ble_eq_true rfl⟩) (pre_V hK hPc hDc 0 11 rfl rfl) rfl rfl hl.1 rfl (lv_room (Nat.le_of_ble_eq_true rfl)) dL_law_262 ⟨Nat.le_of_ble_eq_true rfl, Nat.le_of_ble_eq_true rfl⟩) hS hA hP (fun H locs hP hS => ?_)
  refine lv_icmp_eq (tgt := 947) hx hb dL_law_265 (by decide) (fun c265 => ?_) (fun c265 => absurd (rfl) c265)
  exact law_end C0 _ _ _ hS (lv_sub hl [0, 3] rfl)
set_option maxRecDepth 100000 in
set_option maxHeartbeats 4000000 in
theorem law_c4 {p : Program} {l : Launch} {e : Env} {s : State} {m : MethodId} {below : List Frame} {meth : Method} {c : Code} {b : Nat} {xs : Nat → Int32} {A : Nat → Prop} {D : va_G} {cI cR cM : ClassId} {jn : Nat} {hh mm : Nat} {uh um : Nat → Nat} {H : Heap} {locs : List Loc} {ls : Array Slot} (C : LC p s m meth c b 7 xs A D cI cR cM) (hP : va_P D vwCl [(hh, .inr (10, [.int (nI jn), .ref (uh 0), .ref (uh 1), .ref (uh 2), .ref (uh 3), .ref (uh 4), .ref (uh 5), .ref (uh 6)])), (uh 1, .inr (0, [.ref (uh 8), .ref (uh 9), .int 0, .int 0])), (mm, .inr (11, [.int (nI jn), .ref (um 0), .ref (um 1), .int 0, .int 0, .ref (um 2), .int 0, .int (-1), .int (-1), .int 0, .int 0, .int 0, .int 0, .int 0, .ref (um 3), .ref (um 4), .ref (um 5), .ref (um 6), .ref (um 7), .int 0, .int 0, .int 0, .ref (um 8), .ref (um 9), .ref (um 10), .int 0, .int 0, .ref (um 11), .int 0, .int 0, .ref (um 12), .ref (um 13), .ref (um 14), .ref (um 15), .ref (um 16), .int 0, .ref (um 17), .ref (um 18), .ref (um 19), .ref (um 20), .ref (um 21), .ref (um 22), .int 0, .int 0, .int 0, .ref (um 23), .ref (um 24)]))] H) (hD : va_D A [(hh, .inr (10, [.int (nI jn), .ref (uh 0), .ref (uh 1), .ref (uh 2), .ref (uh 3), .ref (uh 4), .ref (uh 5), .ref (uh 6)])), (uh 1, .inr (0, [.ref (uh 8), .ref (uh 9), .int 0, .int 0])), (mm, .inr (11, [.int (nI jn), .ref (um 0), .ref (um 1), .int 0, .int 0, .ref (um 2), .int 0, .int (-1), .int (-1), .int 0, .int 0, .int 0, .int 0, .int 0, .ref (um 3), .ref (um 4), .ref (um 5), .ref (um 6), .ref (um 7), .int 0, .int 0, .int 0, .ref (um 8), .ref (um 9), .ref (um 10), .int 0, .int 0, .ref (um 11), .int 0, .int 0, .ref (um 12), .ref (um 13), .ref (um 14), .ref (um 15), .ref (um 16), .int 0, .ref (um 17), .ref (um 18), .ref (um 19), .ref (um 20), .ref (um 21), .ref (um 22), .int 0, .int 0, .int 0, .ref (um 23), .ref (um 24)]))]) (hS : va_S A s.heap H locs) (hl : lv_has ls 4 [(0, .ref b), (1, .ref hh), (2, .ref mm), (3, .int 1)]) : W p l e room_1 s m #[Value.ref b] below meth c H locs 92 95787 (lw_Z below #[Value.ref b] s) (F0 m 270 ls []) := by
  have C0 := C
  obtain ⟨hx, hb, hr, hml, hown, hts, hX, hbl, hlocks, hK, hA, hA2⟩ := C
  have hbA : ¬ A b := fun q => absurd (hA2 b q) (Nat.not_le.mpr hbl)
  refine lv_aload_n hx hb dL_law_270 rfl (lv_at hl 1 rfl) ?_
  refine lv_aload_n hx hb dL_law_271 rfl (lv_at hl 0 rfl) ?_
  refine lv_iload_n hx hb dL_law_272 rfl (lv_at hl 3 rfl) ?_
  refine lv_iconst (v := 1) hx hb dL_law_273 (by decide) ?_
  refine lv_iadd hx hb dL_law_274 ?_
  refine lv_eqi (y := 2) (by decide) ?_
  refine va_sld hx hb hX hbl hbA hS (vp_in_nI (n := 2) (by decide) (by decide)) dL_law_275 ?_
  refine lv_eqi (y := xs 2) rfl ?_
  have hPc := hP.sub (ws' := [(hh, .inr (10, [.int (nI jn), .ref (uh 0), .ref (uh 1), .ref (uh 2), .ref (uh 3), .ref (uh 4), .ref (uh 5), .ref (uh 6)])), (uh 1, .inr (0, [.ref (uh 8), .ref (uh 9), .int 0, .int 0]))]) [0, 1] rfl
  have hDc := hD.sub (ws' := [(hh, .inr (10, [.int (nI jn), .ref (uh 0), .ref (uh 1), .ref (uh 2), .ref (uh 3), .ref (uh 4), .ref (uh 5), .ref (uh 6)])), (uh 1, .inr (0, [.ref (uh 8), .ref (uh 9), .int 0, .int 0]))]) [0, 1] (by decide) rfl
  refine call_g (wr := [(mm, .inr (11, [.int (nI jn), .ref (um 0), .ref (um 1), .int 0, .int 0, .ref (um 2), .int 0, .int (-1), .int (-1), .int 0, .int 0, .int 0, .int 0, .int 0, .ref (um 3), .ref (um 4), .ref (um 5), .ref (um 6), .ref (um 7), .int 0, .int 0, .int 0, .ref (um 8), .ref (um 9), .ref (um 10), .int 0, .int 0, .ref (um 11), .int 0, .int 0, .ref (um 12), .ref (um 13), .ref (um 14), .ref (um 15), .ref (um 16), .int 0, .ref (um 17), .ref (um 18), .ref (um 19), .ref (um 20), .ref (um 21), .ref (um 22), .int 0, .int 0, .int 0, .ref (um 23), .ref (um 24)]))]) (va_runV (As := [.int (xs 2)]) (rest := []) ⟨hx, hb, hml, hown, hts⟩ (c_look l D cI cR cM _ (xs 2) hh (.int (nI jn)) (.ref (uh 0)) (.ref (uh 2)) (.ref (uh 3)) (.ref (uh 4)) (.ref (uh 5)) (.ref (uh 6)) (uh 1) (uh 8) (uh 9)) (cwV 1 hts gL_law_X10_look rfl rfl rfl (by decide +kernel) ⟨Nat.le_of_ble_eq_true rfl, Nat.le_of_ble_eq_true rfl⟩) (pre_V hK hPc hDc 0 10 rfl rfl) rfl rfl hl.1 rfl (lv_room (Nat.le_of_ble_eq_true rfl)) dL_law_276 ⟨Nat.le_of_ble_eq_true rfl, Nat.le_of_ble_eq_true rfl⟩) hP hD hS hA [0, 1] [2] rfl rfl (by decide) (by decide) (fun _u H locs hw hP hD hS => ?_)
  have hP : va_P D vwCl [(mm, .inr (11, [.int (nI jn), .ref (um 0), .ref (um 1), .int 0, .int 0, .ref (um 2), .int 0, .int (-1), .int (-1), .int 0, .int 0, .int 0, .int 0, .int 0, .ref (um 3), .ref (um 4), .ref (um 5), .ref (um 6), .ref (um 7), .int 0, .int 0, .int 0, .ref (um 8), .ref (um 9), .ref (um 10), .int 0, .int 0, .ref (um 11), .int 0, .int 0, .ref (um 12), .ref (um 13), .ref (um 14), .ref (um 15), .ref (um 16), .int 0, .ref (um 17), .ref (um 18), .ref (um 19), .ref (um 20), .ref (um 21), .ref (um 22), .int 0, .int 0, .int 0, .ref (um 23), .ref (um 24)]))] H := hP
  have hD : va_D A [(mm, .inr (11, [.int (nI jn), .ref (um 0), .ref (um 1), .int 0, .int 0, .ref (um 2), .int 0, .int (-1), .int (-1), .int 0, .int 0, .int 0, .int 0, .int 0, .ref (um 3), .ref (um 4), .ref (um 5), .ref (um 6), .ref (um 7), .int 0, .int 0, .int 0, .ref (um 8), .ref (um 9), .ref (um 10), .int 0, .int 0, .ref (um 11), .int 0, .int 0, .ref (um 12), .ref (um 13), .ref (um 14), .ref (um 15), .ref (um 16), .int 0, .ref (um 17), .ref (um 18), .ref (um 19), .ref (um 20), .ref (um 21), .ref (um 22), .int 0, .int 0, .int 0, .ref (um 23), .ref (um 24)]))] := hD
  refine lv_aload_n hx hb dL_law_279 rfl (lv_at hl 2 rfl) ?_
  refine lv_aload_n hx hb dL_law_280 rfl (lv_at hl 0 rfl) ?_
  refine lv_iload_n hx hb dL_law_281 rfl (lv_at hl 3 rfl) ?_
  refine lv_iconst (v := 1) hx hb dL_law_282 (by decide) ?_
  refine lv_iadd hx hb dL_law_283 ?_
  refine lv_eqi (y := 2) (by decide) ?_
  refine va_sld hx hb hX hbl hbA hS (vp_in_nI (n := 2) (by decide) (by decide)) dL_law_284 ?_
  refine lv_eqi (y := xs 2) rfl ?_
  have hPc := hP.sub (ws' := [(mm, .inr (11, [.int (nI jn), .ref (um 0), .ref (um 1), .int 0, .int 0, .ref (um 2), .int 0, .int (-1), .int (-1), .int 0, .int 0, .int 0, .int 0, .int 0, .ref (um 3), .ref (um 4), .ref (um 5), .ref (um 6), .ref (um 7), .int 0, .int 0, .int 0, .ref (um 8), .ref (um 9), .ref (um 10), .int 0, .int 0, .ref (um 11), .int 0, .int 0, .ref (um 12), .ref (um 13), .ref (um 14), .ref (um 15), .ref (um 16), .int 0, .ref (um 17), .ref (um 18), .ref (um 19), .ref (um 20), .ref (um 21), .ref (um 22), .int 0, .int 0, .int 0, .ref (um 23), .ref (um 24)]))]) [0] rfl
  have hDc := hD.sub (ws' := [(mm, .inr (11, [.int (nI jn), .ref (um 0), .ref (um 1), .int 0, .int 0, .ref (um 2), .int 0, .int (-1), .int (-1), .int 0, .int 0, .int 0, .int 0, .int 0, .ref (um 3), .ref (um 4), .ref (um 5), .ref (um 6), .ref (um 7), .int 0, .int 0, .int 0, .ref (um 8), .ref (um 9), .ref (um 10), .int 0, .int 0, .ref (um 11), .int 0, .int 0, .ref (um 12), .ref (um 13), .ref (um 14), .ref (um 15), .ref (um 16), .int 0, .ref (um 17), .ref (um 18), .ref (um 19), .ref (um 20), .ref (um 21), .ref (um 22), .int 0, .int 0, .int 0, .ref (um 23), .ref (um 24)]))]) [0] (by decide) rfl
  refine call_g (wr := []) (va_runV (As := [.int (xs 2)]) (rest := [.int (if xs 2 = 0 then 1 else 0)]) ⟨hx, hb, hml, hown, hts⟩ (c_mlook l D cI cR cM _ (xs 2) mm (.int (nI jn)) (.ref (um 0)) (.ref (um 1)) (.int 0) (.ref (um 2)) (.int 0) (.int (-1)) (.int (-1)) (.int 0) (.int 0) (.int 0) (.int 0) (.int 0) (.ref (um 3)) (.ref (um 4)) (.ref (um 5)) (.ref (um 6)) (.ref (um 7)) (.int 0) (.int 0) (.int 0) (.ref (um 8)) (.ref (um 9)) (.ref (um 10)) (.int 0) (.int 0) (.ref (um 11)) (.int 0) (.int 0) (.ref (um 12)) (.ref (um 13)) (.ref (um 14)) (.ref (um 15)) (.ref (um 16)) (.int 0) (.ref (um 17)) (.ref (um 18)) (.ref (um 19)) (.ref (um 20)) (.ref (um 21)) (.ref (um 22)) (.int 0) (.int 0) (.int 0) (.ref (um 23)) (.ref (um 24))) (cwV 1 hts gL_law_X11_look rfl rfl rfl (by decide +kernel) ⟨Nat.le_of_ble_eq_true rfl, Nat.le_of_ble_eq_true rfl⟩) (pre_V hK hPc hDc 0 11 rfl rfl) rfl rfl hl.1 rfl (lv_room (Nat.le_of_ble_eq_true rfl)) dL_law_285 ⟨Nat.le_of_ble_eq_true rfl, Nat.le_of_ble_eq_true rfl⟩) hP hD hS hA [0] [] rfl rfl (by decide) (by decide) (fun _u H locs hw hP hD hS => ?_)
  have hP : va_P D vwCl [] H := hP
  have hD : va_D A [] := hD
  refine lv_icmp_eq (tgt := 947) hx hb dL_law_288 (by decide) (fun c288 => ?_) (fun c288 => absurd (rfl) c288)
  exact law_end C0 _ _ _ hS (lv_sub hl [0, 3] rfl)
set_option maxRecDepth 100000 in
set_option maxHeartbeats 4000000 in
theorem law_c5 {p : Program} {l : Launch} {e : Env} {s : State} {m : MethodId} {below : List Frame} {meth : Method} {c : Code} {b : Nat} {xs : Nat → Int32} {A : Nat → Prop} {D : va_G} {cI cR cM : ClassId} {jn : Nat} {hh mm : Nat} {uh um : Nat → Nat} {H : Heap} {locs : List Loc} {ls : Array Slot} (C : LC p s m meth c b 7 xs A D cI cR cM) (hP : va_P D vwCl [(hh, .inr (10, [.int (nI jn), .ref (uh 0), .ref (uh 1), .ref (uh 2), .ref (uh 3), .ref (uh 4), .ref (uh 5), .ref (uh 6)])), (uh 1, .inr (0, [.ref (uh 8), .ref (uh 9), .int 0, .int 0])), (uh 8, .inl (cR, 488, .inr (.inr (.inr (.inr (fun _ => none)))))), (mm, .inr (11, [.int (nI jn), .ref (um 0), .ref (um 1), .int 0, .int 0, .ref (um 2), .int 0, .int (-1), .int (-1), .int 0, .int 0, .int 0, .int 0, .int 0, .ref (um 3), .ref (um 4), .ref (um 5), .ref (um 6), .ref (um 7), .int 0, .int 0, .int 0, .ref (um 8), .ref (um 9), .ref (um 10), .int 0, .int 0, .ref (um 11), .int 0, .int 0, .ref (um 12), .ref (um 13), .ref (um 14), .ref (um 15), .ref (um 16), .int 0, .ref (um 17), .ref (um 18), .ref (um 19), .ref (um 20), .ref (um 21), .ref (um 22), .int 0, .int 0, .int 0, .ref (um 23), .ref (um 24)]))] H) (hD : va_D A [(hh, .inr (10, [.int (nI jn), .ref (uh 0), .ref (uh 1), .ref (uh 2), .ref (uh 3), .ref (uh 4), .ref (uh 5), .ref (uh 6)])), (uh 1, .inr (0, [.ref (uh 8), .ref (uh 9), .int 0, .int 0])), (uh 8, .inl (cR, 488, .inr (.inr (.inr (.inr (fun _ => none)))))), (mm, .inr (11, [.int (nI jn), .ref (um 0), .ref (um 1), .int 0, .int 0, .ref (um 2), .int 0, .int (-1), .int (-1), .int 0, .int 0, .int 0, .int 0, .int 0, .ref (um 3), .ref (um 4), .ref (um 5), .ref (um 6), .ref (um 7), .int 0, .int 0, .int 0, .ref (um 8), .ref (um 9), .ref (um 10), .int 0, .int 0, .ref (um 11), .int 0, .int 0, .ref (um 12), .ref (um 13), .ref (um 14), .ref (um 15), .ref (um 16), .int 0, .ref (um 17), .ref (um 18), .ref (um 19), .ref (um 20), .ref (um 21), .ref (um 22), .int 0, .int 0, .int 0, .ref (um 23), .ref (um 24)]))]) (hS : va_S A s.heap H locs) (hl : lv_has ls 4 [(0, .ref b), (1, .ref hh), (2, .ref mm), (3, .int 1)]) : W p l e room_1 s m #[Value.ref b] below meth c H locs 92 95787 (lw_Z below #[Value.ref b] s) (F0 m 293 ls []) := by
  have C0 := C
  obtain ⟨hx, hb, hr, hml, hown, hts, hX, hbl, hlocks, hK, hA, hA2⟩ := C
  have hbA : ¬ A b := fun q => absurd (hA2 b q) (Nat.not_le.mpr hbl)
  refine lv_aload_n hx hb dL_law_293 rfl (lv_at hl 1 rfl) ?_
  refine lv_aload_n hx hb dL_law_294 rfl (lv_at hl 0 rfl) ?_
  refine lv_iload_n hx hb dL_law_295 rfl (lv_at hl 3 rfl) ?_
  refine lv_iconst (v := 1) hx hb dL_law_296 (by decide) ?_
  refine lv_iadd hx hb dL_law_297 ?_
  refine lv_eqi (y := 2) (by decide) ?_
  refine va_sld hx hb hX hbl hbA hS (vp_in_nI (n := 2) (by decide) (by decide)) dL_law_298 ?_
  refine lv_eqi (y := xs 2) rfl ?_
  have hPc := hP.sub (ws' := [(hh, .inr (10, [.int (nI jn), .ref (uh 0), .ref (uh 1), .ref (uh 2), .ref (uh 3), .ref (uh 4), .ref (uh 5), .ref (uh 6)])), (uh 1, .inr (0, [.ref (uh 8), .ref (uh 9), .int 0, .int 0])), (uh 8, .inl (cR, 488, .inr (.inr (.inr (.inr (fun _ => none))))))]) [0, 1, 2] rfl
  have hDc := hD.sub (ws' := [(hh, .inr (10, [.int (nI jn), .ref (uh 0), .ref (uh 1), .ref (uh 2), .ref (uh 3), .ref (uh 4), .ref (uh 5), .ref (uh 6)])), (uh 1, .inr (0, [.ref (uh 8), .ref (uh 9), .int 0, .int 0])), (uh 8, .inl (cR, 488, .inr (.inr (.inr (.inr (fun _ => none))))))]) [0, 1, 2] (by decide) rfl
  refine ro (va_runV (As := [.int (xs 2)]) (rest := []) ⟨hx, hb, hml, hown, hts⟩ (c_beats l D cI cR cM _ (xs 2) hh (.int (nI jn)) (.ref (uh 0)) (.ref (uh 2)) (.ref (uh 3)) (.ref (uh 4)) (.ref (uh 5)) (.ref (uh 6)) (uh 1) (uh 8) (uh 9)) (cwV 1 hts gL_law_X10_beats rfl rfl rfl (by decide +kernel) ⟨Nat.le_of_ble_eq_true rfl, Nat.le_of_ble_eq_true rfl⟩) (pre_V hK hPc hDc 0 10 rfl rfl) rfl rfl hl.1 rfl (lv_room (Nat.le_of_ble_eq_true rfl)) dL_law_299 ⟨Nat.le_of_ble_eq_true rfl, Nat.le_of_ble_eq_true rfl⟩) hS hA hP (fun H locs hP hS => ?_)
  refine lv_aload_n hx hb dL_law_302 rfl (lv_at hl 2 rfl) ?_
  refine lv_aload_n hx hb dL_law_303 rfl (lv_at hl 0 rfl) ?_
  refine lv_iload_n hx hb dL_law_304 rfl (lv_at hl 3 rfl) ?_
  refine lv_iconst (v := 1) hx hb dL_law_305 (by decide) ?_
  refine lv_iadd hx hb dL_law_306 ?_
  refine lv_eqi (y := 2) (by decide) ?_
  refine va_sld hx hb hX hbl hbA hS (vp_in_nI (n := 2) (by decide) (by decide)) dL_law_307 ?_
  refine lv_eqi (y := xs 2) rfl ?_
  have hPc := hP.sub (ws' := [(mm, .inr (11, [.int (nI jn), .ref (um 0), .ref (um 1), .int 0, .int 0, .ref (um 2), .int 0, .int (-1), .int (-1), .int 0, .int 0, .int 0, .int 0, .int 0, .ref (um 3), .ref (um 4), .ref (um 5), .ref (um 6), .ref (um 7), .int 0, .int 0, .int 0, .ref (um 8), .ref (um 9), .ref (um 10), .int 0, .int 0, .ref (um 11), .int 0, .int 0, .ref (um 12), .ref (um 13), .ref (um 14), .ref (um 15), .ref (um 16), .int 0, .ref (um 17), .ref (um 18), .ref (um 19), .ref (um 20), .ref (um 21), .ref (um 22), .int 0, .int 0, .int 0, .ref (um 23), .ref (um 24)]))]) [3] rfl
  have hDc := hD.sub (ws' := [(mm, .inr (11, [.int (nI jn), .ref (um 0), .ref (um 1), .int 0, .int 0, .ref (um 2), .int 0, .int (-1), .int (-1), .int 0, .int 0, .int 0, .int 0, .int 0, .ref (um 3), .ref (um 4), .ref (um 5), .ref (um 6), .ref (um 7), .int 0, .int 0, .int 0, .ref (um 8), .ref (um 9), .ref (um 10), .int 0, .int 0, .ref (um 11), .int 0, .int 0, .ref (um 12), .ref (um 13), .ref (um 14), .ref (um 15), .ref (um 16), .int 0, .ref (um 17), .ref (um 18), .ref (um 19), .ref (um 20), .ref (um 21), .ref (um 22), .int 0, .int 0, .int 0, .ref (um 23), .ref (um 24)]))]) [3] (by decide) rfl
  refine ro (va_runV (As := [.int (xs 2)]) (rest := [.int (-1)]) ⟨hx, hb, hml, hown, hts⟩ (c_mbeats l D cI cR cM _ (xs 2) mm [.int (nI jn), .ref (um 0), .ref (um 1), .int 0, .int 0, .ref (um 2), .int 0, .int (-1), .int (-1), .int 0, .int 0, .int 0, .int 0, .int 0, .ref (um 3), .ref (um 4), .ref (um 5), .ref (um 6), .ref (um 7), .int 0, .int 0, .int 0, .ref (um 8), .ref (um 9), .ref (um 10), .int 0, .int 0, .ref (um 11), .int 0, .int 0, .ref (um 12), .ref (um 13), .ref (um 14), .ref (um 15), .ref (um 16), .int 0, .ref (um 17), .ref (um 18), .ref (um 19), .ref (um 20), .ref (um 21), .ref (um 22), .int 0, .int 0, .int 0, .ref (um 23), .ref (um 24)] rfl) (cwV 1 hts gL_law_X11_beats rfl rfl rfl (by decide +kernel) ⟨Nat.le_of_ble_eq_true rfl, Nat.le_of_ble_eq_true rfl⟩) (pre_V hK hPc hDc 0 11 rfl rfl) rfl rfl hl.1 rfl (lv_room (Nat.le_of_ble_eq_true rfl)) dL_law_308 ⟨Nat.le_of_ble_eq_true rfl, Nat.le_of_ble_eq_true rfl⟩) hS hA hP (fun H locs hP hS => ?_)
  refine lv_icmp_eq (tgt := 947) hx hb dL_law_311 (by decide) (fun c311 => ?_) (fun c311 => absurd (rfl) c311)
  exact law_end C0 _ _ _ hS (lv_sub hl [0, 3] rfl)
set_option maxRecDepth 100000 in
set_option maxHeartbeats 4000000 in
theorem law_c6 {p : Program} {l : Launch} {e : Env} {s : State} {m : MethodId} {below : List Frame} {meth : Method} {c : Code} {b : Nat} {xs : Nat → Int32} {A : Nat → Prop} {D : va_G} {cI cR cM : ClassId} {jn : Nat} {hh mm : Nat} {uh um : Nat → Nat} {H : Heap} {locs : List Loc} {ls : Array Slot} (C : LC p s m meth c b 7 xs A D cI cR cM) (hP : va_P D vwCl [(hh, .inr (10, [.int (nI jn), .ref (uh 0), .ref (uh 1), .ref (uh 2), .ref (uh 3), .ref (uh 4), .ref (uh 5), .ref (uh 6)])), (uh 1, .inr (0, [.ref (uh 8), .ref (uh 9), .int 0, .int 0])), (uh 8, .inl (cR, 488, .inr (.inr (.inr (.inr (fun _ => none)))))), (mm, .inr (11, [.int (nI jn), .ref (um 0), .ref (um 1), .int 0, .int 0, .ref (um 2), .int 0, .int (-1), .int (-1), .int 0, .int 0, .int 0, .int 0, .int 0, .ref (um 3), .ref (um 4), .ref (um 5), .ref (um 6), .ref (um 7), .int 0, .int 0, .int 0, .ref (um 8), .ref (um 9), .ref (um 10), .int 0, .int 0, .ref (um 11), .int 0, .int 0, .ref (um 12), .ref (um 13), .ref (um 14), .ref (um 15), .ref (um 16), .int 0, .ref (um 17), .ref (um 18), .ref (um 19), .ref (um 20), .ref (um 21), .ref (um 22), .int 0, .int 0, .int 0, .ref (um 23), .ref (um 24)]))] H) (hD : va_D A [(hh, .inr (10, [.int (nI jn), .ref (uh 0), .ref (uh 1), .ref (uh 2), .ref (uh 3), .ref (uh 4), .ref (uh 5), .ref (uh 6)])), (uh 1, .inr (0, [.ref (uh 8), .ref (uh 9), .int 0, .int 0])), (uh 8, .inl (cR, 488, .inr (.inr (.inr (.inr (fun _ => none)))))), (mm, .inr (11, [.int (nI jn), .ref (um 0), .ref (um 1), .int 0, .int 0, .ref (um 2), .int 0, .int (-1), .int (-1), .int 0, .int 0, .int 0, .int 0, .int 0, .ref (um 3), .ref (um 4), .ref (um 5), .ref (um 6), .ref (um 7), .int 0, .int 0, .int 0, .ref (um 8), .ref (um 9), .ref (um 10), .int 0, .int 0, .ref (um 11), .int 0, .int 0, .ref (um 12), .ref (um 13), .ref (um 14), .ref (um 15), .ref (um 16), .int 0, .ref (um 17), .ref (um 18), .ref (um 19), .ref (um 20), .ref (um 21), .ref (um 22), .int 0, .int 0, .int 0, .ref (um 23), .ref (um 24)]))]) (hS : va_S A s.heap H locs) (hl : lv_has ls 4 [(0, .ref b), (1, .ref hh), (2, .ref mm), (3, .int 1)]) : W p l e room_1 s m #[Value.ref b] below meth c H locs 92 95787 (lw_Z below #[Value.ref b] s) (F0 m 316 ls []) := by
  have C0 := C
  obtain ⟨hx, hb, hr, hml, hown, hts, hX, hbl, hlocks, hK, hA, hA2⟩ := C
  have hbA : ¬ A b := fun q => absurd (hA2 b q) (Nat.not_le.mpr hbl)
  refine lv_aload_n hx hb dL_law_316 rfl (lv_at hl 1 rfl) ?_
  refine lv_aload_n hx hb dL_law_317 rfl (lv_at hl 0 rfl) ?_
  refine lv_iload_n hx hb dL_law_318 rfl (lv_at hl 3 rfl) ?_
  refine lv_iconst (v := 1) hx hb dL_law_319 (by decide) ?_
  refine lv_iadd hx hb dL_law_320 ?_
  refine lv_eqi (y := 2) (by decide) ?_
  refine va_sld hx hb hX hbl hbA hS (vp_in_nI (n := 2) (by decide) (by decide)) dL_law_321 ?_
  refine lv_eqi (y := xs 2) rfl ?_
  refine lv_aload_n hx hb dL_law_322 rfl (lv_at hl 0 rfl) ?_
  refine lv_iload_n hx hb dL_law_323 rfl (lv_at hl 3 rfl) ?_
  refine lv_iconst (v := 2) hx hb dL_law_324 (by decide) ?_
  refine lv_iadd hx hb dL_law_325 ?_
  refine lv_eqi (y := 3) (by decide) ?_
  refine va_sld hx hb hX hbl hbA hS (vp_in_nI (n := 3) (by decide) (by decide)) dL_law_326 ?_
  refine lv_eqi (y := xs 3) rfl ?_
  refine lv_aload_n hx hb dL_law_327 rfl (lv_at hl 0 rfl) ?_
  refine lv_iload_n hx hb dL_law_328 rfl (lv_at hl 3 rfl) ?_
  refine lv_iconst (v := 3) hx hb dL_law_329 (by decide) ?_
  refine lv_iadd hx hb dL_law_330 ?_
  refine lv_eqi (y := 4) (by decide) ?_
  refine va_sld hx hb hX hbl hbA hS (vp_in_nI (n := 4) (by decide) (by decide)) dL_law_331 ?_
  refine lv_eqi (y := xs 4) rfl ?_
  refine lv_aload_n hx hb dL_law_332 rfl (lv_at hl 0 rfl) ?_
  refine lv_iload_n hx hb dL_law_333 rfl (lv_at hl 3 rfl) ?_
  refine lv_iconst (v := 4) hx hb dL_law_334 (by decide) ?_
  refine lv_iadd hx hb dL_law_335 ?_
  refine lv_eqi (y := 5) (by decide) ?_
  refine va_sld hx hb hX hbl hbA hS (vp_in_nI (n := 5) (by decide) (by decide)) dL_law_336 ?_
  refine lv_eqi (y := xs 5) rfl ?_
  refine lv_aload_n hx hb dL_law_337 rfl (lv_at hl 0 rfl) ?_
  refine lv_iload_n hx hb dL_law_338 rfl (lv_at hl 3 rfl) ?_
  refine lv_iconst (v := 5) hx hb dL_law_339 (by decide) ?_
  refine lv_iadd hx hb dL_law_340 ?_
  refine lv_eqi (y := 6) (by decide) ?_
  refine va_sld hx hb hX hbl hbA hS (vp_in_nI (n := 6) (by decide) (by decide)) dL_law_341 ?_
  refine lv_eqi (y := xs 6) rfl ?_
  have hPc := hP.sub (ws' := [(hh, .inr (10, [.int (nI jn), .ref (uh 0), .ref (uh 1), .ref (uh 2), .ref (uh 3), .ref (uh 4), .ref (uh 5), .ref (uh 6)])), (uh 1, .inr (0, [.ref (uh 8), .ref (uh 9), .int 0, .int 0])), (uh 8, .inl (cR, 488, .inr (.inr (.inr (.inr (fun _ => none))))))]) [0, 1, 2] rfl
  have hDc := hD.sub (ws' := [(hh, .inr (10, [.int (nI jn), .ref (uh 0), .ref (uh 1), .ref (uh 2), .ref (uh 3), .ref (uh 4), .ref (uh 5), .ref (uh 6)])), (uh 1, .inr (0, [.ref (uh 8), .ref (uh 9), .int 0, .int 0])), (uh 8, .inl (cR, 488, .inr (.inr (.inr (.inr (fun _ => none))))))]) [0, 1, 2] (by decide) rfl
  refine ro (va_runV (As := [.int (xs 2), .int (xs 3), .int (xs 4), .int (xs 5), .int (xs 6)]) (rest := []) ⟨hx, hb, hml, hown, hts⟩ (c_thrown l D cI cR cM _ (xs 2) (xs 3) (xs 4) (xs 5) (xs 6) hh (.int (nI jn)) (.ref (uh 0)) (.ref (uh 2)) (.ref (uh 3)) (.ref (uh 4)) (.ref (uh 5)) (.ref (uh 6)) (uh 1) (uh 8) (uh 9)) (cwV 5 hts gL_law_X10_thrown rfl rfl rfl (by decide +kernel) ⟨Nat.le_of_ble_eq_true rfl, Nat.le_of_ble_eq_true rfl⟩) (pre_V hK hPc hDc 0 10 rfl rfl) rfl rfl hl.1 rfl (lv_room (Nat.le_of_ble_eq_true rfl)) dL_law_342 ⟨Nat.le_of_ble_eq_true rfl, Nat.le_of_ble_eq_true rfl⟩) hS hA hP (fun H locs hP hS => ?_)
  refine lv_aload_n hx hb dL_law_345 rfl (lv_at hl 2 rfl) ?_
  refine lv_aload_n hx hb dL_law_346 rfl (lv_at hl 0 rfl) ?_
  refine lv_iload_n hx hb dL_law_347 rfl (lv_at hl 3 rfl) ?_
  refine lv_iconst (v := 1) hx hb dL_law_348 (by decide) ?_
  refine lv_iadd hx hb dL_law_349 ?_
  refine lv_eqi (y := 2) (by decide) ?_
  refine va_sld hx hb hX hbl hbA hS (vp_in_nI (n := 2) (by decide) (by decide)) dL_law_350 ?_
  refine lv_eqi (y := xs 2) rfl ?_
  refine lv_aload_n hx hb dL_law_351 rfl (lv_at hl 0 rfl) ?_
  refine lv_iload_n hx hb dL_law_352 rfl (lv_at hl 3 rfl) ?_
  refine lv_iconst (v := 2) hx hb dL_law_353 (by decide) ?_
  refine lv_iadd hx hb dL_law_354 ?_
  refine lv_eqi (y := 3) (by decide) ?_
  refine va_sld hx hb hX hbl hbA hS (vp_in_nI (n := 3) (by decide) (by decide)) dL_law_355 ?_
  refine lv_eqi (y := xs 3) rfl ?_
  refine lv_aload_n hx hb dL_law_356 rfl (lv_at hl 0 rfl) ?_
  refine lv_iload_n hx hb dL_law_357 rfl (lv_at hl 3 rfl) ?_
  refine lv_iconst (v := 3) hx hb dL_law_358 (by decide) ?_
  refine lv_iadd hx hb dL_law_359 ?_
  refine lv_eqi (y := 4) (by decide) ?_
  refine va_sld hx hb hX hbl hbA hS (vp_in_nI (n := 4) (by decide) (by decide)) dL_law_360 ?_
  refine lv_eqi (y := xs 4) rfl ?_
  refine lv_aload_n hx hb dL_law_361 rfl (lv_at hl 0 rfl) ?_
  refine lv_iload_n hx hb dL_law_362 rfl (lv_at hl 3 rfl) ?_
  refine lv_iconst (v := 4) hx hb dL_law_363 (by decide) ?_
  refine lv_iadd hx hb dL_law_364 ?_
  refine lv_eqi (y := 5) (by decide) ?_
  refine va_sld hx hb hX hbl hbA hS (vp_in_nI (n := 5) (by decide) (by decide)) dL_law_365 ?_
  refine lv_eqi (y := xs 5) rfl ?_
  refine lv_aload_n hx hb dL_law_366 rfl (lv_at hl 0 rfl) ?_
  refine lv_iload_n hx hb dL_law_367 rfl (lv_at hl 3 rfl) ?_
  refine lv_iconst (v := 5) hx hb dL_law_368 (by decide) ?_
  refine lv_iadd hx hb dL_law_369 ?_
  refine lv_eqi (y := 6) (by decide) ?_
  refine va_sld hx hb hX hbl hbA hS (vp_in_nI (n := 6) (by decide) (by decide)) dL_law_370 ?_
  refine lv_eqi (y := xs 6) rfl ?_
  have hPc := hP.sub (ws' := [(mm, .inr (11, [.int (nI jn), .ref (um 0), .ref (um 1), .int 0, .int 0, .ref (um 2), .int 0, .int (-1), .int (-1), .int 0, .int 0, .int 0, .int 0, .int 0, .ref (um 3), .ref (um 4), .ref (um 5), .ref (um 6), .ref (um 7), .int 0, .int 0, .int 0, .ref (um 8), .ref (um 9), .ref (um 10), .int 0, .int 0, .ref (um 11), .int 0, .int 0, .ref (um 12), .ref (um 13), .ref (um 14), .ref (um 15), .ref (um 16), .int 0, .ref (um 17), .ref (um 18), .ref (um 19), .ref (um 20), .ref (um 21), .ref (um 22), .int 0, .int 0, .int 0, .ref (um 23), .ref (um 24)]))]) [3] rfl
  have hDc := hD.sub (ws' := [(mm, .inr (11, [.int (nI jn), .ref (um 0), .ref (um 1), .int 0, .int 0, .ref (um 2), .int 0, .int (-1), .int (-1), .int 0, .int 0, .int 0, .int 0, .int 0, .ref (um 3), .ref (um 4), .ref (um 5), .ref (um 6), .ref (um 7), .int 0, .int 0, .int 0, .ref (um 8), .ref (um 9), .ref (um 10), .int 0, .int 0, .ref (um 11), .int 0, .int 0, .ref (um 12), .ref (um 13), .ref (um 14), .ref (um 15), .ref (um 16), .int 0, .ref (um 17), .ref (um 18), .ref (um 19), .ref (um 20), .ref (um 21), .ref (um 22), .int 0, .int 0, .int 0, .ref (um 23), .ref (um 24)]))]) [3] (by decide) rfl
  refine ro (va_runV (As := [.int (xs 2), .int (xs 3), .int (xs 4), .int (xs 5), .int (xs 6)]) (rest := [.int (-1)]) ⟨hx, hb, hml, hown, hts⟩ (c_mthrown l D cI cR cM _ (xs 2) (xs 3) (xs 4) (xs 5) (xs 6) mm [.int (nI jn), .ref (um 0), .ref (um 1), .int 0, .int 0, .ref (um 2), .int 0, .int (-1), .int (-1), .int 0, .int 0, .int 0, .int 0, .int 0, .ref (um 3), .ref (um 4), .ref (um 5), .ref (um 6), .ref (um 7), .int 0, .int 0, .int 0, .ref (um 8), .ref (um 9), .ref (um 10), .int 0, .int 0, .ref (um 11), .int 0, .int 0, .ref (um 12), .ref (um 13), .ref (um 14), .ref (um 15), .ref (um 16), .int 0, .ref (um 17), .ref (um 18), .ref (um 19), .ref (um 20), .ref (um 21), .ref (um 22), .int 0, .int 0, .int 0, .ref (um 23), .ref (um 24)] rfl) (cwV 5 hts gL_law_X11_thrown rfl rfl rfl (by decide +kernel) ⟨Nat.le_of_ble_eq_true rfl, Nat.le_of_ble_eq_true rfl⟩) (pre_V hK hPc hDc 0 11 rfl rfl) rfl rfl hl.1 rfl (lv_room (Nat.le_of_ble_eq_true rfl)) dL_law_371 ⟨Nat.le_of_ble_eq_true rfl, Nat.le_of_ble_eq_true rfl⟩) hS hA hP (fun H locs hP hS => ?_)
  refine lv_icmp_eq (tgt := 947) hx hb dL_law_374 (by decide) (fun c374 => ?_) (fun c374 => absurd (rfl) c374)
  exact law_end C0 _ _ _ hS (lv_sub hl [0, 3] rfl)
set_option maxRecDepth 100000 in
set_option maxHeartbeats 4000000 in
theorem law_c7 {p : Program} {l : Launch} {e : Env} {s : State} {m : MethodId} {below : List Frame} {meth : Method} {c : Code} {b : Nat} {xs : Nat → Int32} {A : Nat → Prop} {D : va_G} {cI cR cM : ClassId} {jn : Nat} {hh mm : Nat} {uh um : Nat → Nat} {H : Heap} {locs : List Loc} {ls : Array Slot} (C : LC p s m meth c b 7 xs A D cI cR cM) (hP : va_P D vwCl [(hh, .inr (10, [.int (nI jn), .ref (uh 0), .ref (uh 1), .ref (uh 2), .ref (uh 3), .ref (uh 4), .ref (uh 5), .ref (uh 6)])), (uh 1, .inr (0, [.ref (uh 8), .ref (uh 9), .int 0, .int 0])), (uh 8, .inl (cR, 488, .inr (.inr (.inr (.inr (fun _ => none)))))), (mm, .inr (11, [.int (nI jn), .ref (um 0), .ref (um 1), .int 0, .int 0, .ref (um 2), .int 0, .int (-1), .int (-1), .int 0, .int 0, .int 0, .int 0, .int 0, .ref (um 3), .ref (um 4), .ref (um 5), .ref (um 6), .ref (um 7), .int 0, .int 0, .int 0, .ref (um 8), .ref (um 9), .ref (um 10), .int 0, .int 0, .ref (um 11), .int 0, .int 0, .ref (um 12), .ref (um 13), .ref (um 14), .ref (um 15), .ref (um 16), .int 0, .ref (um 17), .ref (um 18), .ref (um 19), .ref (um 20), .ref (um 21), .ref (um 22), .int 0, .int 0, .int 0, .ref (um 23), .ref (um 24)]))] H) (hD : va_D A [(hh, .inr (10, [.int (nI jn), .ref (uh 0), .ref (uh 1), .ref (uh 2), .ref (uh 3), .ref (uh 4), .ref (uh 5), .ref (uh 6)])), (uh 1, .inr (0, [.ref (uh 8), .ref (uh 9), .int 0, .int 0])), (uh 8, .inl (cR, 488, .inr (.inr (.inr (.inr (fun _ => none)))))), (mm, .inr (11, [.int (nI jn), .ref (um 0), .ref (um 1), .int 0, .int 0, .ref (um 2), .int 0, .int (-1), .int (-1), .int 0, .int 0, .int 0, .int 0, .int 0, .ref (um 3), .ref (um 4), .ref (um 5), .ref (um 6), .ref (um 7), .int 0, .int 0, .int 0, .ref (um 8), .ref (um 9), .ref (um 10), .int 0, .int 0, .ref (um 11), .int 0, .int 0, .ref (um 12), .ref (um 13), .ref (um 14), .ref (um 15), .ref (um 16), .int 0, .ref (um 17), .ref (um 18), .ref (um 19), .ref (um 20), .ref (um 21), .ref (um 22), .int 0, .int 0, .int 0, .ref (um 23), .ref (um 24)]))]) (hS : va_S A s.heap H locs) (hl : lv_has ls 4 [(0, .ref b), (1, .ref hh), (2, .ref mm), (3, .int 1)]) : W p l e room_1 s m #[Value.ref b] below meth c H locs 92 95787 (lw_Z below #[Value.ref b] s) (F0 m 379 ls []) := by
  have C0 := C
  obtain ⟨hx, hb, hr, hml, hown, hts, hX, hbl, hlocks, hK, hA, hA2⟩ := C
  have hbA : ¬ A b := fun q => absurd (hA2 b q) (Nat.not_le.mpr hbl)
  refine lv_aload_n hx hb dL_law_379 rfl (lv_at hl 1 rfl) ?_
  refine lv_aload_n hx hb dL_law_380 rfl (lv_at hl 0 rfl) ?_
  refine lv_iload_n hx hb dL_law_381 rfl (lv_at hl 3 rfl) ?_
  refine lv_iconst (v := 1) hx hb dL_law_382 (by decide) ?_
  refine lv_iadd hx hb dL_law_383 ?_
  refine lv_eqi (y := 2) (by decide) ?_
  refine va_sld hx hb hX hbl hbA hS (vp_in_nI (n := 2) (by decide) (by decide)) dL_law_384 ?_
  refine lv_eqi (y := xs 2) rfl ?_
  refine lv_aload_n hx hb dL_law_385 rfl (lv_at hl 0 rfl) ?_
  refine lv_iload_n hx hb dL_law_386 rfl (lv_at hl 3 rfl) ?_
  refine lv_iconst (v := 2) hx hb dL_law_387 (by decide) ?_
  refine lv_iadd hx hb dL_law_388 ?_
  refine lv_eqi (y := 3) (by decide) ?_
  refine va_sld hx hb hX hbl hbA hS (vp_in_nI (n := 3) (by decide) (by decide)) dL_law_389 ?_
  refine lv_eqi (y := xs 3) rfl ?_
  have hPc := hP.sub (ws' := [(hh, .inr (10, [.int (nI jn), .ref (uh 0), .ref (uh 1), .ref (uh 2), .ref (uh 3), .ref (uh 4), .ref (uh 5), .ref (uh 6)])), (uh 1, .inr (0, [.ref (uh 8), .ref (uh 9), .int 0, .int 0])), (uh 8, .inl (cR, 488, .inr (.inr (.inr (.inr (fun _ => none))))))]) [0, 1, 2] rfl
  have hDc := hD.sub (ws' := [(hh, .inr (10, [.int (nI jn), .ref (uh 0), .ref (uh 1), .ref (uh 2), .ref (uh 3), .ref (uh 4), .ref (uh 5), .ref (uh 6)])), (uh 1, .inr (0, [.ref (uh 8), .ref (uh 9), .int 0, .int 0])), (uh 8, .inl (cR, 488, .inr (.inr (.inr (.inr (fun _ => none))))))]) [0, 1, 2] (by decide) rfl
  refine ro (va_runV (As := [.int (xs 2), .int (xs 3)]) (rest := []) ⟨hx, hb, hml, hown, hts⟩ (c_good l D cI cR cM _ (xs 2) (xs 3) hh (.int (nI jn)) (.ref (uh 0)) (.ref (uh 2)) (.ref (uh 3)) (.ref (uh 4)) (.ref (uh 5)) (.ref (uh 6)) (uh 1) (uh 8) (uh 9)) (cwV 2 hts gL_law_X10_good rfl rfl rfl (by decide +kernel) ⟨Nat.le_of_ble_eq_true rfl, Nat.le_of_ble_eq_true rfl⟩) (pre_V hK hPc hDc 0 10 rfl rfl) rfl rfl hl.1 rfl (lv_room (Nat.le_of_ble_eq_true rfl)) dL_law_390 ⟨Nat.le_of_ble_eq_true rfl, Nat.le_of_ble_eq_true rfl⟩) hS hA hP (fun H locs hP hS => ?_)
  refine lv_aload_n hx hb dL_law_393 rfl (lv_at hl 2 rfl) ?_
  refine lv_aload_n hx hb dL_law_394 rfl (lv_at hl 0 rfl) ?_
  refine lv_iload_n hx hb dL_law_395 rfl (lv_at hl 3 rfl) ?_
  refine lv_iconst (v := 1) hx hb dL_law_396 (by decide) ?_
  refine lv_iadd hx hb dL_law_397 ?_
  refine lv_eqi (y := 2) (by decide) ?_
  refine va_sld hx hb hX hbl hbA hS (vp_in_nI (n := 2) (by decide) (by decide)) dL_law_398 ?_
  refine lv_eqi (y := xs 2) rfl ?_
  refine lv_aload_n hx hb dL_law_399 rfl (lv_at hl 0 rfl) ?_
  refine lv_iload_n hx hb dL_law_400 rfl (lv_at hl 3 rfl) ?_
  refine lv_iconst (v := 2) hx hb dL_law_401 (by decide) ?_
  refine lv_iadd hx hb dL_law_402 ?_
  refine lv_eqi (y := 3) (by decide) ?_
  refine va_sld hx hb hX hbl hbA hS (vp_in_nI (n := 3) (by decide) (by decide)) dL_law_403 ?_
  refine lv_eqi (y := xs 3) rfl ?_
  have hPc := hP.sub (ws' := [(mm, .inr (11, [.int (nI jn), .ref (um 0), .ref (um 1), .int 0, .int 0, .ref (um 2), .int 0, .int (-1), .int (-1), .int 0, .int 0, .int 0, .int 0, .int 0, .ref (um 3), .ref (um 4), .ref (um 5), .ref (um 6), .ref (um 7), .int 0, .int 0, .int 0, .ref (um 8), .ref (um 9), .ref (um 10), .int 0, .int 0, .ref (um 11), .int 0, .int 0, .ref (um 12), .ref (um 13), .ref (um 14), .ref (um 15), .ref (um 16), .int 0, .ref (um 17), .ref (um 18), .ref (um 19), .ref (um 20), .ref (um 21), .ref (um 22), .int 0, .int 0, .int 0, .ref (um 23), .ref (um 24)]))]) [3] rfl
  have hDc := hD.sub (ws' := [(mm, .inr (11, [.int (nI jn), .ref (um 0), .ref (um 1), .int 0, .int 0, .ref (um 2), .int 0, .int (-1), .int (-1), .int 0, .int 0, .int 0, .int 0, .int 0, .ref (um 3), .ref (um 4), .ref (um 5), .ref (um 6), .ref (um 7), .int 0, .int 0, .int 0, .ref (um 8), .ref (um 9), .ref (um 10), .int 0, .int 0, .ref (um 11), .int 0, .int 0, .ref (um 12), .ref (um 13), .ref (um 14), .ref (um 15), .ref (um 16), .int 0, .ref (um 17), .ref (um 18), .ref (um 19), .ref (um 20), .ref (um 21), .ref (um 22), .int 0, .int 0, .int 0, .ref (um 23), .ref (um 24)]))]) [3] (by decide) rfl
  refine ro (va_runV (As := [.int (xs 2), .int (xs 3)]) (rest := [.int (-1)]) ⟨hx, hb, hml, hown, hts⟩ (c_mgood l D cI cR cM _ (xs 2) (xs 3) mm [.int (nI jn), .ref (um 0), .ref (um 1), .int 0, .int 0, .ref (um 2), .int 0, .int (-1), .int (-1), .int 0, .int 0, .int 0, .int 0, .int 0, .ref (um 3), .ref (um 4), .ref (um 5), .ref (um 6), .ref (um 7), .int 0, .int 0, .int 0, .ref (um 8), .ref (um 9), .ref (um 10), .int 0, .int 0, .ref (um 11), .int 0, .int 0, .ref (um 12), .ref (um 13), .ref (um 14), .ref (um 15), .ref (um 16), .int 0, .ref (um 17), .ref (um 18), .ref (um 19), .ref (um 20), .ref (um 21), .ref (um 22), .int 0, .int 0, .int 0, .ref (um 23), .ref (um 24)] rfl) (cwV 2 hts gL_law_X11_good rfl rfl rfl (by decide +kernel) ⟨Nat.le_of_ble_eq_true rfl, Nat.le_of_ble_eq_true rfl⟩) (pre_V hK hPc hDc 0 11 rfl rfl) rfl rfl hl.1 rfl (lv_room (Nat.le_of_ble_eq_true rfl)) dL_law_404 ⟨Nat.le_of_ble_eq_true rfl, Nat.le_of_ble_eq_true rfl⟩) hS hA hP (fun H locs hP hS => ?_)
  refine lv_icmp_eq (tgt := 947) hx hb dL_law_407 (by decide) (fun c407 => ?_) (fun c407 => absurd (rfl) c407)
  exact law_end C0 _ _ _ hS (lv_sub hl [0, 3] rfl)
set_option maxRecDepth 100000 in
set_option maxHeartbeats 4000000 in
theorem law_c8 {p : Program} {l : Launch} {e : Env} {s : State} {m : MethodId} {below : List Frame} {meth : Method} {c : Code} {b : Nat} {xs : Nat → Int32} {A : Nat → Prop} {D : va_G} {cI cR cM : ClassId} {jn : Nat} {hh mm : Nat} {uh um : Nat → Nat} {H : Heap} {locs : List Loc} {ls : Array Slot} (C : LC p s m meth c b 7 xs A D cI cR cM) (hP : va_P D vwCl [(hh, .inr (10, [.int (nI jn), .ref (uh 0), .ref (uh 1), .ref (uh 2), .ref (uh 3), .ref (uh 4), .ref (uh 5), .ref (uh 6)])), (uh 1, .inr (0, [.ref (uh 8), .ref (uh 9), .int 0, .int 0])), (uh 8, .inl (cR, 488, .inr (.inr (.inr (.inr (fun _ => none)))))), (uh 3, .inr (1, [.ref (uh 37), .ref (uh 38), .ref (uh 39), .ref (uh 40), .ref (uh 41), .ref (uh 42), .int 0, .null])), (mm, .inr (11, [.int (nI jn), .ref (um 0), .ref (um 1), .int 0, .int 0, .ref (um 2), .int 0, .int (-1), .int (-1), .int 0, .int 0, .int 0, .int 0, .int 0, .ref (um 3), .ref (um 4), .ref (um 5), .ref (um 6), .ref (um 7), .int 0, .int 0, .int 0, .ref (um 8), .ref (um 9), .ref (um 10), .int 0, .int 0, .ref (um 11), .int 0, .int 0, .ref (um 12), .ref (um 13), .ref (um 14), .ref (um 15), .ref (um 16), .int 0, .ref (um 17), .ref (um 18), .ref (um 19), .ref (um 20), .ref (um 21), .ref (um 22), .int 0, .int 0, .int 0, .ref (um 23), .ref (um 24)]))] H) (hD : va_D A [(hh, .inr (10, [.int (nI jn), .ref (uh 0), .ref (uh 1), .ref (uh 2), .ref (uh 3), .ref (uh 4), .ref (uh 5), .ref (uh 6)])), (uh 1, .inr (0, [.ref (uh 8), .ref (uh 9), .int 0, .int 0])), (uh 8, .inl (cR, 488, .inr (.inr (.inr (.inr (fun _ => none)))))), (uh 3, .inr (1, [.ref (uh 37), .ref (uh 38), .ref (uh 39), .ref (uh 40), .ref (uh 41), .ref (uh 42), .int 0, .null])), (mm, .inr (11, [.int (nI jn), .ref (um 0), .ref (um 1), .int 0, .int 0, .ref (um 2), .int 0, .int (-1), .int (-1), .int 0, .int 0, .int 0, .int 0, .int 0, .ref (um 3), .ref (um 4), .ref (um 5), .ref (um 6), .ref (um 7), .int 0, .int 0, .int 0, .ref (um 8), .ref (um 9), .ref (um 10), .int 0, .int 0, .ref (um 11), .int 0, .int 0, .ref (um 12), .ref (um 13), .ref (um 14), .ref (um 15), .ref (um 16), .int 0, .ref (um 17), .ref (um 18), .ref (um 19), .ref (um 20), .ref (um 21), .ref (um 22), .int 0, .int 0, .int 0, .ref (um 23), .ref (um 24)]))]) (hS : va_S A s.heap H locs) (hl : lv_has ls 4 [(0, .ref b), (1, .ref hh), (2, .ref mm), (3, .int 1)]) : W p l e room_1 s m #[Value.ref b] below meth c H locs 92 95787 (lw_Z below #[Value.ref b] s) (F0 m 412 ls []) := by
  have C0 := C
  obtain ⟨hx, hb, hr, hml, hown, hts, hX, hbl, hlocks, hK, hA, hA2⟩ := C
  have hbA : ¬ A b := fun q => absurd (hA2 b q) (Nat.not_le.mpr hbl)
  refine lv_aload_n hx hb dL_law_412 rfl (lv_at hl 1 rfl) ?_
  refine lv_aload_n hx hb dL_law_413 rfl (lv_at hl 0 rfl) ?_
  refine lv_iload_n hx hb dL_law_414 rfl (lv_at hl 3 rfl) ?_
  refine lv_iconst (v := 1) hx hb dL_law_415 (by decide) ?_
  refine lv_iadd hx hb dL_law_416 ?_
  refine lv_eqi (y := 2) (by decide) ?_
  refine va_sld hx hb hX hbl hbA hS (vp_in_nI (n := 2) (by decide) (by decide)) dL_law_417 ?_
  refine lv_eqi (y := xs 2) rfl ?_
  have hPc := hP.sub (ws' := [(hh, .inr (10, [.int (nI jn), .ref (uh 0), .ref (uh 1), .ref (uh 2), .ref (uh 3), .ref (uh 4), .ref (uh 5), .ref (uh 6)])), (uh 1, .inr (0, [.ref (uh 8), .ref (uh 9), .int 0, .int 0])), (uh 8, .inl (cR, 488, .inr (.inr (.inr (.inr (fun _ => none)))))), (uh 3, .inr (1, [.ref (uh 37), .ref (uh 38), .ref (uh 39), .ref (uh 40), .ref (uh 41), .ref (uh 42), .int 0, .null]))]) [0, 1, 2, 3] rfl
  have hDc := hD.sub (ws' := [(hh, .inr (10, [.int (nI jn), .ref (uh 0), .ref (uh 1), .ref (uh 2), .ref (uh 3), .ref (uh 4), .ref (uh 5), .ref (uh 6)])), (uh 1, .inr (0, [.ref (uh 8), .ref (uh 9), .int 0, .int 0])), (uh 8, .inl (cR, 488, .inr (.inr (.inr (.inr (fun _ => none)))))), (uh 3, .inr (1, [.ref (uh 37), .ref (uh 38), .ref (uh 39), .ref (uh 40), .ref (uh 41), .ref (uh 42), .int 0, .null]))]) [0, 1, 2, 3] (by decide) rfl
  refine ro (va_runV (As := [.int (xs 2)]) (rest := []) ⟨hx, hb, hml, hown, hts⟩ (c_cycles l D cI cR cM _ (xs 2) hh (.int (nI jn)) (.ref (uh 0)) (.ref (uh 2)) (.ref (uh 4)) (.ref (uh 5)) (.ref (uh 6)) (uh 1) (uh 8) (uh 9) (uh 3) (.ref (uh 37)) (.ref (uh 38)) (.ref (uh 39)) (.ref (uh 40)) (.ref (uh 41)) (.ref (uh 42)) (.int 0) .null) (cwV 1 hts gL_law_X10_cycles rfl rfl rfl (by decide +kernel) ⟨Nat.le_of_ble_eq_true rfl, Nat.le_of_ble_eq_true rfl⟩) (pre_V hK hPc hDc 0 10 rfl rfl) rfl rfl hl.1 rfl (lv_room (Nat.le_of_ble_eq_true rfl)) dL_law_418 ⟨Nat.le_of_ble_eq_true rfl, Nat.le_of_ble_eq_true rfl⟩) hS hA hP (fun H locs hP hS => ?_)
  refine lv_aload_n hx hb dL_law_421 rfl (lv_at hl 2 rfl) ?_
  refine lv_aload_n hx hb dL_law_422 rfl (lv_at hl 0 rfl) ?_
  refine lv_iload_n hx hb dL_law_423 rfl (lv_at hl 3 rfl) ?_
  refine lv_iconst (v := 1) hx hb dL_law_424 (by decide) ?_
  refine lv_iadd hx hb dL_law_425 ?_
  refine lv_eqi (y := 2) (by decide) ?_
  refine va_sld hx hb hX hbl hbA hS (vp_in_nI (n := 2) (by decide) (by decide)) dL_law_426 ?_
  refine lv_eqi (y := xs 2) rfl ?_
  have hPc := hP.sub (ws' := [(mm, .inr (11, [.int (nI jn), .ref (um 0), .ref (um 1), .int 0, .int 0, .ref (um 2), .int 0, .int (-1), .int (-1), .int 0, .int 0, .int 0, .int 0, .int 0, .ref (um 3), .ref (um 4), .ref (um 5), .ref (um 6), .ref (um 7), .int 0, .int 0, .int 0, .ref (um 8), .ref (um 9), .ref (um 10), .int 0, .int 0, .ref (um 11), .int 0, .int 0, .ref (um 12), .ref (um 13), .ref (um 14), .ref (um 15), .ref (um 16), .int 0, .ref (um 17), .ref (um 18), .ref (um 19), .ref (um 20), .ref (um 21), .ref (um 22), .int 0, .int 0, .int 0, .ref (um 23), .ref (um 24)]))]) [4] rfl
  have hDc := hD.sub (ws' := [(mm, .inr (11, [.int (nI jn), .ref (um 0), .ref (um 1), .int 0, .int 0, .ref (um 2), .int 0, .int (-1), .int (-1), .int 0, .int 0, .int 0, .int 0, .int 0, .ref (um 3), .ref (um 4), .ref (um 5), .ref (um 6), .ref (um 7), .int 0, .int 0, .int 0, .ref (um 8), .ref (um 9), .ref (um 10), .int 0, .int 0, .ref (um 11), .int 0, .int 0, .ref (um 12), .ref (um 13), .ref (um 14), .ref (um 15), .ref (um 16), .int 0, .ref (um 17), .ref (um 18), .ref (um 19), .ref (um 20), .ref (um 21), .ref (um 22), .int 0, .int 0, .int 0, .ref (um 23), .ref (um 24)]))]) [4] (by decide) rfl
  refine ro (va_runV (As := [.int (xs 2)]) (rest := [.int (-1)]) ⟨hx, hb, hml, hown, hts⟩ (c_mcycles l D cI cR cM _ (xs 2) mm [.int (nI jn), .ref (um 0), .ref (um 1), .int 0, .int 0, .ref (um 2), .int 0, .int (-1), .int (-1), .int 0, .int 0, .int 0, .int 0, .int 0, .ref (um 3), .ref (um 4), .ref (um 5), .ref (um 6), .ref (um 7), .int 0, .int 0, .int 0, .ref (um 8), .ref (um 9), .ref (um 10), .int 0, .int 0, .ref (um 11), .int 0, .int 0, .ref (um 12), .ref (um 13), .ref (um 14), .ref (um 15), .ref (um 16), .int 0, .ref (um 17), .ref (um 18), .ref (um 19), .ref (um 20), .ref (um 21), .ref (um 22), .int 0, .int 0, .int 0, .ref (um 23), .ref (um 24)] rfl) (cwV 1 hts gL_law_X11_cycles rfl rfl rfl (by decide +kernel) ⟨Nat.le_of_ble_eq_true rfl, Nat.le_of_ble_eq_true rfl⟩) (pre_V hK hPc hDc 0 11 rfl rfl) rfl rfl hl.1 rfl (lv_room (Nat.le_of_ble_eq_true rfl)) dL_law_427 ⟨Nat.le_of_ble_eq_true rfl, Nat.le_of_ble_eq_true rfl⟩) hS hA hP (fun H locs hP hS => ?_)
  refine lv_icmp_eq (tgt := 947) hx hb dL_law_430 (by decide) (fun c430 => ?_) (fun c430 => absurd (rfl) c430)
  exact law_end C0 _ _ _ hS (lv_sub hl [0, 3] rfl)
set_option maxRecDepth 100000 in
set_option maxHeartbeats 4000000 in
theorem law_c9 {p : Program} {l : Launch} {e : Env} {s : State} {m : MethodId} {below : List Frame} {meth : Method} {c : Code} {b : Nat} {xs : Nat → Int32} {A : Nat → Prop} {D : va_G} {cI cR cM : ClassId} {jn : Nat} {hh mm : Nat} {uh um : Nat → Nat} {H : Heap} {locs : List Loc} {ls : Array Slot} (C : LC p s m meth c b 7 xs A D cI cR cM) (hP : va_P D vwCl [(hh, .inr (10, [.int (nI jn), .ref (uh 0), .ref (uh 1), .ref (uh 2), .ref (uh 3), .ref (uh 4), .ref (uh 5), .ref (uh 6)])), (uh 1, .inr (0, [.ref (uh 8), .ref (uh 9), .int 0, .int 0])), (uh 8, .inl (cR, 488, .inr (.inr (.inr (.inr (fun _ => none)))))), (mm, .inr (11, [.int (nI jn), .ref (um 0), .ref (um 1), .int 0, .int 0, .ref (um 2), .int 0, .int (-1), .int (-1), .int 0, .int 0, .int 0, .int 0, .int 0, .ref (um 3), .ref (um 4), .ref (um 5), .ref (um 6), .ref (um 7), .int 0, .int 0, .int 0, .ref (um 8), .ref (um 9), .ref (um 10), .int 0, .int 0, .ref (um 11), .int 0, .int 0, .ref (um 12), .ref (um 13), .ref (um 14), .ref (um 15), .ref (um 16), .int 0, .ref (um 17), .ref (um 18), .ref (um 19), .ref (um 20), .ref (um 21), .ref (um 22), .int 0, .int 0, .int 0, .ref (um 23), .ref (um 24)]))] H) (hD : va_D A [(hh, .inr (10, [.int (nI jn), .ref (uh 0), .ref (uh 1), .ref (uh 2), .ref (uh 3), .ref (uh 4), .ref (uh 5), .ref (uh 6)])), (uh 1, .inr (0, [.ref (uh 8), .ref (uh 9), .int 0, .int 0])), (uh 8, .inl (cR, 488, .inr (.inr (.inr (.inr (fun _ => none)))))), (mm, .inr (11, [.int (nI jn), .ref (um 0), .ref (um 1), .int 0, .int 0, .ref (um 2), .int 0, .int (-1), .int (-1), .int 0, .int 0, .int 0, .int 0, .int 0, .ref (um 3), .ref (um 4), .ref (um 5), .ref (um 6), .ref (um 7), .int 0, .int 0, .int 0, .ref (um 8), .ref (um 9), .ref (um 10), .int 0, .int 0, .ref (um 11), .int 0, .int 0, .ref (um 12), .ref (um 13), .ref (um 14), .ref (um 15), .ref (um 16), .int 0, .ref (um 17), .ref (um 18), .ref (um 19), .ref (um 20), .ref (um 21), .ref (um 22), .int 0, .int 0, .int 0, .ref (um 23), .ref (um 24)]))]) (hS : va_S A s.heap H locs) (hl : lv_has ls 4 [(0, .ref b), (1, .ref hh), (2, .ref mm), (3, .int 1)]) : W p l e room_1 s m #[Value.ref b] below meth c H locs 92 95787 (lw_Z below #[Value.ref b] s) (F0 m 435 ls []) := by
  have C0 := C
  obtain ⟨hx, hb, hr, hml, hown, hts, hX, hbl, hlocks, hK, hA, hA2⟩ := C
  have hbA : ¬ A b := fun q => absurd (hA2 b q) (Nat.not_le.mpr hbl)
  refine lv_aload_n hx hb dL_law_435 rfl (lv_at hl 1 rfl) ?_
  refine lv_aload_n hx hb dL_law_436 rfl (lv_at hl 0 rfl) ?_
  refine lv_iload_n hx hb dL_law_437 rfl (lv_at hl 3 rfl) ?_
  refine lv_iconst (v := 1) hx hb dL_law_438 (by decide) ?_
  refine lv_iadd hx hb dL_law_439 ?_
  refine lv_eqi (y := 2) (by decide) ?_
  refine va_sld hx hb hX hbl hbA hS (vp_in_nI (n := 2) (by decide) (by decide)) dL_law_440 ?_
  refine lv_eqi (y := xs 2) rfl ?_
  refine lv_aload_n hx hb dL_law_441 rfl (lv_at hl 0 rfl) ?_
  refine lv_iload_n hx hb dL_law_442 rfl (lv_at hl 3 rfl) ?_
  refine lv_iconst (v := 2) hx hb dL_law_443 (by decide) ?_
  refine lv_iadd hx hb dL_law_444 ?_
  refine lv_eqi (y := 3) (by decide) ?_
  refine va_sld hx hb hX hbl hbA hS (vp_in_nI (n := 3) (by decide) (by decide)) dL_law_445 ?_
  refine lv_eqi (y := xs 3) rfl ?_
  refine lv_aload_n hx hb dL_law_446 rfl (lv_at hl 0 rfl) ?_
  refine lv_iload_n hx hb dL_law_447 rfl (lv_at hl 3 rfl) ?_
  refine lv_iconst (v := 3) hx hb dL_law_448 (by decide) ?_
  refine lv_iadd hx hb dL_law_449 ?_
  refine lv_eqi (y := 4) (by decide) ?_
  refine va_sld hx hb hX hbl hbA hS (vp_in_nI (n := 4) (by decide) (by decide)) dL_law_450 ?_
  refine lv_eqi (y := xs 4) rfl ?_
  have hPc := hP.sub (ws' := [(hh, .inr (10, [.int (nI jn), .ref (uh 0), .ref (uh 1), .ref (uh 2), .ref (uh 3), .ref (uh 4), .ref (uh 5), .ref (uh 6)])), (uh 1, .inr (0, [.ref (uh 8), .ref (uh 9), .int 0, .int 0])), (uh 8, .inl (cR, 488, .inr (.inr (.inr (.inr (fun _ => none))))))]) [0, 1, 2] rfl
  have hDc := hD.sub (ws' := [(hh, .inr (10, [.int (nI jn), .ref (uh 0), .ref (uh 1), .ref (uh 2), .ref (uh 3), .ref (uh 4), .ref (uh 5), .ref (uh 6)])), (uh 1, .inr (0, [.ref (uh 8), .ref (uh 9), .int 0, .int 0])), (uh 8, .inl (cR, 488, .inr (.inr (.inr (.inr (fun _ => none))))))]) [0, 1, 2] (by decide) rfl
  refine ro (va_runV (As := [.int (xs 2), .int (xs 3), .int (xs 4)]) (rest := []) ⟨hx, hb, hml, hown, hts⟩ (c_cycle l D cI cR cM _ (xs 2) (xs 3) (xs 4) hh (.int (nI jn)) (.ref (uh 0)) (.ref (uh 2)) (.ref (uh 3)) (.ref (uh 4)) (.ref (uh 5)) (.ref (uh 6)) (uh 1) (uh 8) (uh 9)) (cwV 3 hts gL_law_X10_cycle rfl rfl rfl (by decide +kernel) ⟨Nat.le_of_ble_eq_true rfl, Nat.le_of_ble_eq_true rfl⟩) (pre_V hK hPc hDc 0 10 rfl rfl) rfl rfl hl.1 rfl (lv_room (Nat.le_of_ble_eq_true rfl)) dL_law_451 ⟨Nat.le_of_ble_eq_true rfl, Nat.le_of_ble_eq_true rfl⟩) hS hA hP (fun H locs hP hS => ?_)
  refine lv_aload_n hx hb dL_law_454 rfl (lv_at hl 2 rfl) ?_
  refine lv_aload_n hx hb dL_law_455 rfl (lv_at hl 0 rfl) ?_
  refine lv_iload_n hx hb dL_law_456 rfl (lv_at hl 3 rfl) ?_
  refine lv_iconst (v := 1) hx hb dL_law_457 (by decide) ?_
  refine lv_iadd hx hb dL_law_458 ?_
  refine lv_eqi (y := 2) (by decide) ?_
  refine va_sld hx hb hX hbl hbA hS (vp_in_nI (n := 2) (by decide) (by decide)) dL_law_459 ?_
  refine lv_eqi (y := xs 2) rfl ?_
  refine lv_aload_n hx hb dL_law_460 rfl (lv_at hl 0 rfl) ?_
  refine lv_iload_n hx hb dL_law_461 rfl (lv_at hl 3 rfl) ?_
  refine lv_iconst (v := 2) hx hb dL_law_462 (by decide) ?_
  refine lv_iadd hx hb dL_law_463 ?_
  refine lv_eqi (y := 3) (by decide) ?_
  refine va_sld hx hb hX hbl hbA hS (vp_in_nI (n := 3) (by decide) (by decide)) dL_law_464 ?_
  refine lv_eqi (y := xs 3) rfl ?_
  refine lv_aload_n hx hb dL_law_465 rfl (lv_at hl 0 rfl) ?_
  refine lv_iload_n hx hb dL_law_466 rfl (lv_at hl 3 rfl) ?_
  refine lv_iconst (v := 3) hx hb dL_law_467 (by decide) ?_
  refine lv_iadd hx hb dL_law_468 ?_
  refine lv_eqi (y := 4) (by decide) ?_
  refine va_sld hx hb hX hbl hbA hS (vp_in_nI (n := 4) (by decide) (by decide)) dL_law_469 ?_
  refine lv_eqi (y := xs 4) rfl ?_
  have hPc := hP.sub (ws' := [(mm, .inr (11, [.int (nI jn), .ref (um 0), .ref (um 1), .int 0, .int 0, .ref (um 2), .int 0, .int (-1), .int (-1), .int 0, .int 0, .int 0, .int 0, .int 0, .ref (um 3), .ref (um 4), .ref (um 5), .ref (um 6), .ref (um 7), .int 0, .int 0, .int 0, .ref (um 8), .ref (um 9), .ref (um 10), .int 0, .int 0, .ref (um 11), .int 0, .int 0, .ref (um 12), .ref (um 13), .ref (um 14), .ref (um 15), .ref (um 16), .int 0, .ref (um 17), .ref (um 18), .ref (um 19), .ref (um 20), .ref (um 21), .ref (um 22), .int 0, .int 0, .int 0, .ref (um 23), .ref (um 24)]))]) [3] rfl
  have hDc := hD.sub (ws' := [(mm, .inr (11, [.int (nI jn), .ref (um 0), .ref (um 1), .int 0, .int 0, .ref (um 2), .int 0, .int (-1), .int (-1), .int 0, .int 0, .int 0, .int 0, .int 0, .ref (um 3), .ref (um 4), .ref (um 5), .ref (um 6), .ref (um 7), .int 0, .int 0, .int 0, .ref (um 8), .ref (um 9), .ref (um 10), .int 0, .int 0, .ref (um 11), .int 0, .int 0, .ref (um 12), .ref (um 13), .ref (um 14), .ref (um 15), .ref (um 16), .int 0, .ref (um 17), .ref (um 18), .ref (um 19), .ref (um 20), .ref (um 21), .ref (um 22), .int 0, .int 0, .int 0, .ref (um 23), .ref (um 24)]))]) [3] (by decide) rfl
  refine ro (va_runV (As := [.int (xs 2), .int (xs 3), .int (xs 4)]) (rest := [.int (-1)]) ⟨hx, hb, hml, hown, hts⟩ (c_mcycle l D cI cR cM _ (xs 2) (xs 3) (xs 4) mm [.int (nI jn), .ref (um 0), .ref (um 1), .int 0, .int 0, .ref (um 2), .int 0, .int (-1), .int (-1), .int 0, .int 0, .int 0, .int 0, .int 0, .ref (um 3), .ref (um 4), .ref (um 5), .ref (um 6), .ref (um 7), .int 0, .int 0, .int 0, .ref (um 8), .ref (um 9), .ref (um 10), .int 0, .int 0, .ref (um 11), .int 0, .int 0, .ref (um 12), .ref (um 13), .ref (um 14), .ref (um 15), .ref (um 16), .int 0, .ref (um 17), .ref (um 18), .ref (um 19), .ref (um 20), .ref (um 21), .ref (um 22), .int 0, .int 0, .int 0, .ref (um 23), .ref (um 24)] rfl) (cwV 3 hts gL_law_X11_cycle rfl rfl rfl (by decide +kernel) ⟨Nat.le_of_ble_eq_true rfl, Nat.le_of_ble_eq_true rfl⟩) (pre_V hK hPc hDc 0 11 rfl rfl) rfl rfl hl.1 rfl (lv_room (Nat.le_of_ble_eq_true rfl)) dL_law_470 ⟨Nat.le_of_ble_eq_true rfl, Nat.le_of_ble_eq_true rfl⟩) hS hA hP (fun H locs hP hS => ?_)
  refine lv_icmp_eq (tgt := 947) hx hb dL_law_473 (by decide) (fun c473 => ?_) (fun c473 => absurd (rfl) c473)
  exact law_end C0 _ _ _ hS (lv_sub hl [0, 3] rfl)
set_option maxRecDepth 100000 in
set_option maxHeartbeats 4000000 in
theorem law_c10 {p : Program} {l : Launch} {e : Env} {s : State} {m : MethodId} {below : List Frame} {meth : Method} {c : Code} {b : Nat} {xs : Nat → Int32} {A : Nat → Prop} {D : va_G} {cI cR cM : ClassId} {jn : Nat} {hh mm : Nat} {uh um : Nat → Nat} {H : Heap} {locs : List Loc} {ls : Array Slot} (C : LC p s m meth c b 7 xs A D cI cR cM) (hP : va_P D vwCl [(hh, .inr (10, [.int (nI jn), .ref (uh 0), .ref (uh 1), .ref (uh 2), .ref (uh 3), .ref (uh 4), .ref (uh 5), .ref (uh 6)])), (uh 1, .inr (0, [.ref (uh 8), .ref (uh 9), .int 0, .int 0])), (uh 8, .inl (cR, 488, .inr (.inr (.inr (.inr (fun _ => none)))))), (mm, .inr (11, [.int (nI jn), .ref (um 0), .ref (um 1), .int 0, .int 0, .ref (um 2), .int 0, .int (-1), .int (-1), .int 0, .int 0, .int 0, .int 0, .int 0, .ref (um 3), .ref (um 4), .ref (um 5), .ref (um 6), .ref (um 7), .int 0, .int 0, .int 0, .ref (um 8), .ref (um 9), .ref (um 10), .int 0, .int 0, .ref (um 11), .int 0, .int 0, .ref (um 12), .ref (um 13), .ref (um 14), .ref (um 15), .ref (um 16), .int 0, .ref (um 17), .ref (um 18), .ref (um 19), .ref (um 20), .ref (um 21), .ref (um 22), .int 0, .int 0, .int 0, .ref (um 23), .ref (um 24)]))] H) (hD : va_D A [(hh, .inr (10, [.int (nI jn), .ref (uh 0), .ref (uh 1), .ref (uh 2), .ref (uh 3), .ref (uh 4), .ref (uh 5), .ref (uh 6)])), (uh 1, .inr (0, [.ref (uh 8), .ref (uh 9), .int 0, .int 0])), (uh 8, .inl (cR, 488, .inr (.inr (.inr (.inr (fun _ => none)))))), (mm, .inr (11, [.int (nI jn), .ref (um 0), .ref (um 1), .int 0, .int 0, .ref (um 2), .int 0, .int (-1), .int (-1), .int 0, .int 0, .int 0, .int 0, .int 0, .ref (um 3), .ref (um 4), .ref (um 5), .ref (um 6), .ref (um 7), .int 0, .int 0, .int 0, .ref (um 8), .ref (um 9), .ref (um 10), .int 0, .int 0, .ref (um 11), .int 0, .int 0, .ref (um 12), .ref (um 13), .ref (um 14), .ref (um 15), .ref (um 16), .int 0, .ref (um 17), .ref (um 18), .ref (um 19), .ref (um 20), .ref (um 21), .ref (um 22), .int 0, .int 0, .int 0, .ref (um 23), .ref (um 24)]))]) (hS : va_S A s.heap H locs) (hl : lv_has ls 4 [(0, .ref b), (1, .ref hh), (2, .ref mm), (3, .int 1)]) : W p l e room_1 s m #[Value.ref b] below meth c H locs 92 95787 (lw_Z below #[Value.ref b] s) (F0 m 478 ls []) := by
  have C0 := C
  obtain ⟨hx, hb, hr, hml, hown, hts, hX, hbl, hlocks, hK, hA, hA2⟩ := C
  have hbA : ¬ A b := fun q => absurd (hA2 b q) (Nat.not_le.mpr hbl)
  refine lv_aload_n hx hb dL_law_478 rfl (lv_at hl 1 rfl) ?_
  refine lv_aload_n hx hb dL_law_479 rfl (lv_at hl 0 rfl) ?_
  refine lv_iload_n hx hb dL_law_480 rfl (lv_at hl 3 rfl) ?_
  refine lv_iconst (v := 1) hx hb dL_law_481 (by decide) ?_
  refine lv_iadd hx hb dL_law_482 ?_
  refine lv_eqi (y := 2) (by decide) ?_
  refine va_sld hx hb hX hbl hbA hS (vp_in_nI (n := 2) (by decide) (by decide)) dL_law_483 ?_
  refine lv_eqi (y := xs 2) rfl ?_
  refine lv_aload_n hx hb dL_law_484 rfl (lv_at hl 0 rfl) ?_
  refine lv_iload_n hx hb dL_law_485 rfl (lv_at hl 3 rfl) ?_
  refine lv_iconst (v := 2) hx hb dL_law_486 (by decide) ?_
  refine lv_iadd hx hb dL_law_487 ?_
  refine lv_eqi (y := 3) (by decide) ?_
  refine va_sld hx hb hX hbl hbA hS (vp_in_nI (n := 3) (by decide) (by decide)) dL_law_488 ?_
  refine lv_eqi (y := xs 3) rfl ?_
  refine lv_aload_n hx hb dL_law_489 rfl (lv_at hl 0 rfl) ?_
  refine lv_iload_n hx hb dL_law_490 rfl (lv_at hl 3 rfl) ?_
  refine lv_iconst (v := 3) hx hb dL_law_491 (by decide) ?_
  refine lv_iadd hx hb dL_law_492 ?_
  refine lv_eqi (y := 4) (by decide) ?_
  refine va_sld hx hb hX hbl hbA hS (vp_in_nI (n := 4) (by decide) (by decide)) dL_law_493 ?_
  refine lv_eqi (y := xs 4) rfl ?_
  refine lv_aload_n hx hb dL_law_494 rfl (lv_at hl 0 rfl) ?_
  refine lv_iload_n hx hb dL_law_495 rfl (lv_at hl 3 rfl) ?_
  refine lv_iconst (v := 4) hx hb dL_law_496 (by decide) ?_
  refine lv_iadd hx hb dL_law_497 ?_
  refine lv_eqi (y := 5) (by decide) ?_
  refine va_sld hx hb hX hbl hbA hS (vp_in_nI (n := 5) (by decide) (by decide)) dL_law_498 ?_
  refine lv_eqi (y := xs 5) rfl ?_
  have hPc := hP.sub (ws' := [(hh, .inr (10, [.int (nI jn), .ref (uh 0), .ref (uh 1), .ref (uh 2), .ref (uh 3), .ref (uh 4), .ref (uh 5), .ref (uh 6)])), (uh 1, .inr (0, [.ref (uh 8), .ref (uh 9), .int 0, .int 0])), (uh 8, .inl (cR, 488, .inr (.inr (.inr (.inr (fun _ => none))))))]) [0, 1, 2] rfl
  have hDc := hD.sub (ws' := [(hh, .inr (10, [.int (nI jn), .ref (uh 0), .ref (uh 1), .ref (uh 2), .ref (uh 3), .ref (uh 4), .ref (uh 5), .ref (uh 6)])), (uh 1, .inr (0, [.ref (uh 8), .ref (uh 9), .int 0, .int 0])), (uh 8, .inl (cR, 488, .inr (.inr (.inr (.inr (fun _ => none))))))]) [0, 1, 2] (by decide) rfl
  refine ro (va_runV (As := [.int (xs 2), .int (xs 3), .int (xs 4), .int (xs 5)]) (rest := []) ⟨hx, hb, hml, hown, hts⟩ (c_cycleOf l D cI cR cM _ (xs 2) (xs 3) (xs 4) (xs 5) hh (.int (nI jn)) (.ref (uh 0)) (.ref (uh 2)) (.ref (uh 3)) (.ref (uh 4)) (.ref (uh 5)) (.ref (uh 6)) (uh 1) (uh 8) (uh 9)) (cwV 4 hts gL_law_X10_cycleOf rfl rfl rfl (by decide +kernel) ⟨Nat.le_of_ble_eq_true rfl, Nat.le_of_ble_eq_true rfl⟩) (pre_V hK hPc hDc 0 10 rfl rfl) rfl rfl hl.1 rfl (lv_room (Nat.le_of_ble_eq_true rfl)) dL_law_499 ⟨Nat.le_of_ble_eq_true rfl, Nat.le_of_ble_eq_true rfl⟩) hS hA hP (fun H locs hP hS => ?_)
  refine lv_aload_n hx hb dL_law_502 rfl (lv_at hl 2 rfl) ?_
  refine lv_aload_n hx hb dL_law_503 rfl (lv_at hl 0 rfl) ?_
  refine lv_iload_n hx hb dL_law_504 rfl (lv_at hl 3 rfl) ?_
  refine lv_iconst (v := 1) hx hb dL_law_505 (by decide) ?_
  refine lv_iadd hx hb dL_law_506 ?_
  refine lv_eqi (y := 2) (by decide) ?_
  refine va_sld hx hb hX hbl hbA hS (vp_in_nI (n := 2) (by decide) (by decide)) dL_law_507 ?_
  refine lv_eqi (y := xs 2) rfl ?_
  refine lv_aload_n hx hb dL_law_508 rfl (lv_at hl 0 rfl) ?_
  refine lv_iload_n hx hb dL_law_509 rfl (lv_at hl 3 rfl) ?_
  refine lv_iconst (v := 2) hx hb dL_law_510 (by decide) ?_
  refine lv_iadd hx hb dL_law_511 ?_
  refine lv_eqi (y := 3) (by decide) ?_
  refine va_sld hx hb hX hbl hbA hS (vp_in_nI (n := 3) (by decide) (by decide)) dL_law_512 ?_
  refine lv_eqi (y := xs 3) rfl ?_
  refine lv_aload_n hx hb dL_law_513 rfl (lv_at hl 0 rfl) ?_
  refine lv_iload_n hx hb dL_law_514 rfl (lv_at hl 3 rfl) ?_
  refine lv_iconst (v := 3) hx hb dL_law_515 (by decide) ?_
  refine lv_iadd hx hb dL_law_516 ?_
  refine lv_eqi (y := 4) (by decide) ?_
  refine va_sld hx hb hX hbl hbA hS (vp_in_nI (n := 4) (by decide) (by decide)) dL_law_517 ?_
  refine lv_eqi (y := xs 4) rfl ?_
  refine lv_aload_n hx hb dL_law_518 rfl (lv_at hl 0 rfl) ?_
  refine lv_iload_n hx hb dL_law_519 rfl (lv_at hl 3 rfl) ?_
  refine lv_iconst (v := 4) hx hb dL_law_520 (by decide) ?_
  refine lv_iadd hx hb dL_law_521 ?_
  refine lv_eqi (y := 5) (by decide) ?_
  refine va_sld hx hb hX hbl hbA hS (vp_in_nI (n := 5) (by decide) (by decide)) dL_law_522 ?_
  refine lv_eqi (y := xs 5) rfl ?_
  have hPc := hP.sub (ws' := [(mm, .inr (11, [.int (nI jn), .ref (um 0), .ref (um 1), .int 0, .int 0, .ref (um 2), .int 0, .int (-1), .int (-1), .int 0, .int 0, .int 0, .int 0, .int 0, .ref (um 3), .ref (um 4), .ref (um 5), .ref (um 6), .ref (um 7), .int 0, .int 0, .int 0, .ref (um 8), .ref (um 9), .ref (um 10), .int 0, .int 0, .ref (um 11), .int 0, .int 0, .ref (um 12), .ref (um 13), .ref (um 14), .ref (um 15), .ref (um 16), .int 0, .ref (um 17), .ref (um 18), .ref (um 19), .ref (um 20), .ref (um 21), .ref (um 22), .int 0, .int 0, .int 0, .ref (um 23), .ref (um 24)]))]) [3] rfl
  have hDc := hD.sub (ws' := [(mm, .inr (11, [.int (nI jn), .ref (um 0), .ref (um 1), .int 0, .int 0, .ref (um 2), .int 0, .int (-1), .int (-1), .int 0, .int 0, .int 0, .int 0, .int 0, .ref (um 3), .ref (um 4), .ref (um 5), .ref (um 6), .ref (um 7), .int 0, .int 0, .int 0, .ref (um 8), .ref (um 9), .ref (um 10), .int 0, .int 0, .ref (um 11), .int 0, .int 0, .ref (um 12), .ref (um 13), .ref (um 14), .ref (um 15), .ref (um 16), .int 0, .ref (um 17), .ref (um 18), .ref (um 19), .ref (um 20), .ref (um 21), .ref (um 22), .int 0, .int 0, .int 0, .ref (um 23), .ref (um 24)]))]) [3] (by decide) rfl
  refine ro (va_runV (As := [.int (xs 2), .int (xs 3), .int (xs 4), .int (xs 5)]) (rest := [.int (-1)]) ⟨hx, hb, hml, hown, hts⟩ (c_mcycleOf l D cI cR cM _ (xs 2) (xs 3) (xs 4) (xs 5) mm [.int (nI jn), .ref (um 0), .ref (um 1), .int 0, .int 0, .ref (um 2), .int 0, .int (-1), .int (-1), .int 0, .int 0, .int 0, .int 0, .int 0, .ref (um 3), .ref (um 4), .ref (um 5), .ref (um 6), .ref (um 7), .int 0, .int 0, .int 0, .ref (um 8), .ref (um 9), .ref (um 10), .int 0, .int 0, .ref (um 11), .int 0, .int 0, .ref (um 12), .ref (um 13), .ref (um 14), .ref (um 15), .ref (um 16), .int 0, .ref (um 17), .ref (um 18), .ref (um 19), .ref (um 20), .ref (um 21), .ref (um 22), .int 0, .int 0, .int 0, .ref (um 23), .ref (um 24)] rfl) (cwV 4 hts gL_law_X11_cycleOf rfl rfl rfl (by decide +kernel) ⟨Nat.le_of_ble_eq_true rfl, Nat.le_of_ble_eq_true rfl⟩) (pre_V hK hPc hDc 0 11 rfl rfl) rfl rfl hl.1 rfl (lv_room (Nat.le_of_ble_eq_true rfl)) dL_law_523 ⟨Nat.le_of_ble_eq_true rfl, Nat.le_of_ble_eq_true rfl⟩) hS hA hP (fun H locs hP hS => ?_)
  refine lv_icmp_eq (tgt := 947) hx hb dL_law_526 (by decide) (fun c526 => ?_) (fun c526 => absurd (rfl) c526)
  exact law_end C0 _ _ _ hS (lv_sub hl [0, 3] rfl)
set_option maxRecDepth 100000 in
set_option maxHeartbeats 4000000 in
theorem law_c11 {p : Program} {l : Launch} {e : Env} {s : State} {m : MethodId} {below : List Frame} {meth : Method} {c : Code} {b : Nat} {xs : Nat → Int32} {A : Nat → Prop} {D : va_G} {cI cR cM : ClassId} {jn : Nat} {hh mm : Nat} {uh um : Nat → Nat} {H : Heap} {locs : List Loc} {ls : Array Slot} (C : LC p s m meth c b 7 xs A D cI cR cM) (hP : va_P D vwCl [(hh, .inr (10, [.int (nI jn), .ref (uh 0), .ref (uh 1), .ref (uh 2), .ref (uh 3), .ref (uh 4), .ref (uh 5), .ref (uh 6)])), (uh 1, .inr (0, [.ref (uh 8), .ref (uh 9), .int 0, .int 0])), (uh 8, .inl (cR, 488, .inr (.inr (.inr (.inr (fun _ => none)))))), (mm, .inr (11, [.int (nI jn), .ref (um 0), .ref (um 1), .int 0, .int 0, .ref (um 2), .int 0, .int (-1), .int (-1), .int 0, .int 0, .int 0, .int 0, .int 0, .ref (um 3), .ref (um 4), .ref (um 5), .ref (um 6), .ref (um 7), .int 0, .int 0, .int 0, .ref (um 8), .ref (um 9), .ref (um 10), .int 0, .int 0, .ref (um 11), .int 0, .int 0, .ref (um 12), .ref (um 13), .ref (um 14), .ref (um 15), .ref (um 16), .int 0, .ref (um 17), .ref (um 18), .ref (um 19), .ref (um 20), .ref (um 21), .ref (um 22), .int 0, .int 0, .int 0, .ref (um 23), .ref (um 24)]))] H) (hD : va_D A [(hh, .inr (10, [.int (nI jn), .ref (uh 0), .ref (uh 1), .ref (uh 2), .ref (uh 3), .ref (uh 4), .ref (uh 5), .ref (uh 6)])), (uh 1, .inr (0, [.ref (uh 8), .ref (uh 9), .int 0, .int 0])), (uh 8, .inl (cR, 488, .inr (.inr (.inr (.inr (fun _ => none)))))), (mm, .inr (11, [.int (nI jn), .ref (um 0), .ref (um 1), .int 0, .int 0, .ref (um 2), .int 0, .int (-1), .int (-1), .int 0, .int 0, .int 0, .int 0, .int 0, .ref (um 3), .ref (um 4), .ref (um 5), .ref (um 6), .ref (um 7), .int 0, .int 0, .int 0, .ref (um 8), .ref (um 9), .ref (um 10), .int 0, .int 0, .ref (um 11), .int 0, .int 0, .ref (um 12), .ref (um 13), .ref (um 14), .ref (um 15), .ref (um 16), .int 0, .ref (um 17), .ref (um 18), .ref (um 19), .ref (um 20), .ref (um 21), .ref (um 22), .int 0, .int 0, .int 0, .ref (um 23), .ref (um 24)]))]) (hS : va_S A s.heap H locs) (hl : lv_has ls 4 [(0, .ref b), (1, .ref hh), (2, .ref mm), (3, .int 1)]) : W p l e room_1 s m #[Value.ref b] below meth c H locs 92 95787 (lw_Z below #[Value.ref b] s) (F0 m 531 ls []) := by
  have C0 := C
  obtain ⟨hx, hb, hr, hml, hown, hts, hX, hbl, hlocks, hK, hA, hA2⟩ := C
  have hbA : ¬ A b := fun q => absurd (hA2 b q) (Nat.not_le.mpr hbl)
  refine lv_aload_n hx hb dL_law_531 rfl (lv_at hl 1 rfl) ?_
  refine lv_aload_n hx hb dL_law_532 rfl (lv_at hl 0 rfl) ?_
  refine lv_iload_n hx hb dL_law_533 rfl (lv_at hl 3 rfl) ?_
  refine lv_iconst (v := 1) hx hb dL_law_534 (by decide) ?_
  refine lv_iadd hx hb dL_law_535 ?_
  refine lv_eqi (y := 2) (by decide) ?_
  refine va_sld hx hb hX hbl hbA hS (vp_in_nI (n := 2) (by decide) (by decide)) dL_law_536 ?_
  refine lv_eqi (y := xs 2) rfl ?_
  refine lv_aload_n hx hb dL_law_537 rfl (lv_at hl 0 rfl) ?_
  refine lv_iload_n hx hb dL_law_538 rfl (lv_at hl 3 rfl) ?_
  refine lv_iconst (v := 2) hx hb dL_law_539 (by decide) ?_
  refine lv_iadd hx hb dL_law_540 ?_
  refine lv_eqi (y := 3) (by decide) ?_
  refine va_sld hx hb hX hbl hbA hS (vp_in_nI (n := 3) (by decide) (by decide)) dL_law_541 ?_
  refine lv_eqi (y := xs 3) rfl ?_
  refine lv_aload_n hx hb dL_law_542 rfl (lv_at hl 0 rfl) ?_
  refine lv_iload_n hx hb dL_law_543 rfl (lv_at hl 3 rfl) ?_
  refine lv_iconst (v := 3) hx hb dL_law_544 (by decide) ?_
  refine lv_iadd hx hb dL_law_545 ?_
  refine lv_eqi (y := 4) (by decide) ?_
  refine va_sld hx hb hX hbl hbA hS (vp_in_nI (n := 4) (by decide) (by decide)) dL_law_546 ?_
  refine lv_eqi (y := xs 4) rfl ?_
  refine lv_aload_n hx hb dL_law_547 rfl (lv_at hl 0 rfl) ?_
  refine lv_iload_n hx hb dL_law_548 rfl (lv_at hl 3 rfl) ?_
  refine lv_iconst (v := 4) hx hb dL_law_549 (by decide) ?_
  refine lv_iadd hx hb dL_law_550 ?_
  refine lv_eqi (y := 5) (by decide) ?_
  refine va_sld hx hb hX hbl hbA hS (vp_in_nI (n := 5) (by decide) (by decide)) dL_law_551 ?_
  refine lv_eqi (y := xs 5) rfl ?_
  refine lv_aload_n hx hb dL_law_552 rfl (lv_at hl 0 rfl) ?_
  refine lv_iload_n hx hb dL_law_553 rfl (lv_at hl 3 rfl) ?_
  refine lv_iconst (v := 5) hx hb dL_law_554 (by decide) ?_
  refine lv_iadd hx hb dL_law_555 ?_
  refine lv_eqi (y := 6) (by decide) ?_
  refine va_sld hx hb hX hbl hbA hS (vp_in_nI (n := 6) (by decide) (by decide)) dL_law_556 ?_
  refine lv_eqi (y := xs 6) rfl ?_
  have hPc := hP.sub (ws' := [(hh, .inr (10, [.int (nI jn), .ref (uh 0), .ref (uh 1), .ref (uh 2), .ref (uh 3), .ref (uh 4), .ref (uh 5), .ref (uh 6)])), (uh 1, .inr (0, [.ref (uh 8), .ref (uh 9), .int 0, .int 0])), (uh 8, .inl (cR, 488, .inr (.inr (.inr (.inr (fun _ => none))))))]) [0, 1, 2] rfl
  have hDc := hD.sub (ws' := [(hh, .inr (10, [.int (nI jn), .ref (uh 0), .ref (uh 1), .ref (uh 2), .ref (uh 3), .ref (uh 4), .ref (uh 5), .ref (uh 6)])), (uh 1, .inr (0, [.ref (uh 8), .ref (uh 9), .int 0, .int 0])), (uh 8, .inl (cR, 488, .inr (.inr (.inr (.inr (fun _ => none))))))]) [0, 1, 2] (by decide) rfl
  refine ro (va_runV (As := [.int (xs 2), .int (xs 3), .int (xs 4), .int (xs 5), .int (xs 6)]) (rest := []) ⟨hx, hb, hml, hown, hts⟩ (c_caught l D cI cR cM _ (xs 2) (xs 3) (xs 4) (xs 5) (xs 6) hh (.int (nI jn)) (.ref (uh 0)) (.ref (uh 2)) (.ref (uh 3)) (.ref (uh 4)) (.ref (uh 5)) (.ref (uh 6)) (uh 1) (uh 8) (uh 9)) (cwV 5 hts gL_law_X10_caught rfl rfl rfl (by decide +kernel) ⟨Nat.le_of_ble_eq_true rfl, Nat.le_of_ble_eq_true rfl⟩) (pre_V hK hPc hDc 0 10 rfl rfl) rfl rfl hl.1 rfl (lv_room (Nat.le_of_ble_eq_true rfl)) dL_law_557 ⟨Nat.le_of_ble_eq_true rfl, Nat.le_of_ble_eq_true rfl⟩) hS hA hP (fun H locs hP hS => ?_)
  refine lv_aload_n hx hb dL_law_560 rfl (lv_at hl 2 rfl) ?_
  refine lv_aload_n hx hb dL_law_561 rfl (lv_at hl 0 rfl) ?_
  refine lv_iload_n hx hb dL_law_562 rfl (lv_at hl 3 rfl) ?_
  refine lv_iconst (v := 1) hx hb dL_law_563 (by decide) ?_
  refine lv_iadd hx hb dL_law_564 ?_
  refine lv_eqi (y := 2) (by decide) ?_
  refine va_sld hx hb hX hbl hbA hS (vp_in_nI (n := 2) (by decide) (by decide)) dL_law_565 ?_
  refine lv_eqi (y := xs 2) rfl ?_
  refine lv_aload_n hx hb dL_law_566 rfl (lv_at hl 0 rfl) ?_
  refine lv_iload_n hx hb dL_law_567 rfl (lv_at hl 3 rfl) ?_
  refine lv_iconst (v := 2) hx hb dL_law_568 (by decide) ?_
  refine lv_iadd hx hb dL_law_569 ?_
  refine lv_eqi (y := 3) (by decide) ?_
  refine va_sld hx hb hX hbl hbA hS (vp_in_nI (n := 3) (by decide) (by decide)) dL_law_570 ?_
  refine lv_eqi (y := xs 3) rfl ?_
  refine lv_aload_n hx hb dL_law_571 rfl (lv_at hl 0 rfl) ?_
  refine lv_iload_n hx hb dL_law_572 rfl (lv_at hl 3 rfl) ?_
  refine lv_iconst (v := 3) hx hb dL_law_573 (by decide) ?_
  refine lv_iadd hx hb dL_law_574 ?_
  refine lv_eqi (y := 4) (by decide) ?_
  refine va_sld hx hb hX hbl hbA hS (vp_in_nI (n := 4) (by decide) (by decide)) dL_law_575 ?_
  refine lv_eqi (y := xs 4) rfl ?_
  refine lv_aload_n hx hb dL_law_576 rfl (lv_at hl 0 rfl) ?_
  refine lv_iload_n hx hb dL_law_577 rfl (lv_at hl 3 rfl) ?_
  refine lv_iconst (v := 4) hx hb dL_law_578 (by decide) ?_
  refine lv_iadd hx hb dL_law_579 ?_
  refine lv_eqi (y := 5) (by decide) ?_
  refine va_sld hx hb hX hbl hbA hS (vp_in_nI (n := 5) (by decide) (by decide)) dL_law_580 ?_
  refine lv_eqi (y := xs 5) rfl ?_
  refine lv_aload_n hx hb dL_law_581 rfl (lv_at hl 0 rfl) ?_
  refine lv_iload_n hx hb dL_law_582 rfl (lv_at hl 3 rfl) ?_
  refine lv_iconst (v := 5) hx hb dL_law_583 (by decide) ?_
  refine lv_iadd hx hb dL_law_584 ?_
  refine lv_eqi (y := 6) (by decide) ?_
  refine va_sld hx hb hX hbl hbA hS (vp_in_nI (n := 6) (by decide) (by decide)) dL_law_585 ?_
  refine lv_eqi (y := xs 6) rfl ?_
  have hPc := hP.sub (ws' := [(mm, .inr (11, [.int (nI jn), .ref (um 0), .ref (um 1), .int 0, .int 0, .ref (um 2), .int 0, .int (-1), .int (-1), .int 0, .int 0, .int 0, .int 0, .int 0, .ref (um 3), .ref (um 4), .ref (um 5), .ref (um 6), .ref (um 7), .int 0, .int 0, .int 0, .ref (um 8), .ref (um 9), .ref (um 10), .int 0, .int 0, .ref (um 11), .int 0, .int 0, .ref (um 12), .ref (um 13), .ref (um 14), .ref (um 15), .ref (um 16), .int 0, .ref (um 17), .ref (um 18), .ref (um 19), .ref (um 20), .ref (um 21), .ref (um 22), .int 0, .int 0, .int 0, .ref (um 23), .ref (um 24)]))]) [3] rfl
  have hDc := hD.sub (ws' := [(mm, .inr (11, [.int (nI jn), .ref (um 0), .ref (um 1), .int 0, .int 0, .ref (um 2), .int 0, .int (-1), .int (-1), .int 0, .int 0, .int 0, .int 0, .int 0, .ref (um 3), .ref (um 4), .ref (um 5), .ref (um 6), .ref (um 7), .int 0, .int 0, .int 0, .ref (um 8), .ref (um 9), .ref (um 10), .int 0, .int 0, .ref (um 11), .int 0, .int 0, .ref (um 12), .ref (um 13), .ref (um 14), .ref (um 15), .ref (um 16), .int 0, .ref (um 17), .ref (um 18), .ref (um 19), .ref (um 20), .ref (um 21), .ref (um 22), .int 0, .int 0, .int 0, .ref (um 23), .ref (um 24)]))]) [3] (by decide) rfl
  refine ro (va_runV (As := [.int (xs 2), .int (xs 3), .int (xs 4), .int (xs 5), .int (xs 6)]) (rest := [.int (-1)]) ⟨hx, hb, hml, hown, hts⟩ (c_mcaught l D cI cR cM _ (xs 2) (xs 3) (xs 4) (xs 5) (xs 6) mm [.int (nI jn), .ref (um 0), .ref (um 1), .int 0, .int 0, .ref (um 2), .int 0, .int (-1), .int (-1), .int 0, .int 0, .int 0, .int 0, .int 0, .ref (um 3), .ref (um 4), .ref (um 5), .ref (um 6), .ref (um 7), .int 0, .int 0, .int 0, .ref (um 8), .ref (um 9), .ref (um 10), .int 0, .int 0, .ref (um 11), .int 0, .int 0, .ref (um 12), .ref (um 13), .ref (um 14), .ref (um 15), .ref (um 16), .int 0, .ref (um 17), .ref (um 18), .ref (um 19), .ref (um 20), .ref (um 21), .ref (um 22), .int 0, .int 0, .int 0, .ref (um 23), .ref (um 24)] rfl) (cwV 5 hts gL_law_X11_caught rfl rfl rfl (by decide +kernel) ⟨Nat.le_of_ble_eq_true rfl, Nat.le_of_ble_eq_true rfl⟩) (pre_V hK hPc hDc 0 11 rfl rfl) rfl rfl hl.1 rfl (lv_room (Nat.le_of_ble_eq_true rfl)) dL_law_586 ⟨Nat.le_of_ble_eq_true rfl, Nat.le_of_ble_eq_true rfl⟩) hS hA hP (fun H locs hP hS => ?_)
  refine lv_icmp_eq (tgt := 947) hx hb dL_law_589 (by decide) (fun c589 => ?_) (fun c589 => absurd (rfl) c589)
  exact law_end C0 _ _ _ hS (lv_sub hl [0, 3] rfl)
set_option maxRecDepth 100000 in
set_option maxHeartbeats 4000000 in
theorem law_c12 {p : Program} {l : Launch} {e : Env} {s : State} {m : MethodId} {below : List Frame} {meth : Method} {c : Code} {b : Nat} {xs : Nat → Int32} {A : Nat → Prop} {D : va_G} {cI cR cM : ClassId} {jn : Nat} {hh mm : Nat} {uh um : Nat → Nat} {H : Heap} {locs : List Loc} {ls : Array Slot} (C : LC p s m meth c b 7 xs A D cI cR cM) (hP : va_P D vwCl [(hh, .inr (10, [.int (nI jn), .ref (uh 0), .ref (uh 1), .ref (uh 2), .ref (uh 3), .ref (uh 4), .ref (uh 5), .ref (uh 6)])), (uh 1, .inr (0, [.ref (uh 8), .ref (uh 9), .int 0, .int 0])), (uh 8, .inl (cR, 488, .inr (.inr (.inr (.inr (fun _ => none)))))), (mm, .inr (11, [.int (nI jn), .ref (um 0), .ref (um 1), .int 0, .int 0, .ref (um 2), .int 0, .int (-1), .int (-1), .int 0, .int 0, .int 0, .int 0, .int 0, .ref (um 3), .ref (um 4), .ref (um 5), .ref (um 6), .ref (um 7), .int 0, .int 0, .int 0, .ref (um 8), .ref (um 9), .ref (um 10), .int 0, .int 0, .ref (um 11), .int 0, .int 0, .ref (um 12), .ref (um 13), .ref (um 14), .ref (um 15), .ref (um 16), .int 0, .ref (um 17), .ref (um 18), .ref (um 19), .ref (um 20), .ref (um 21), .ref (um 22), .int 0, .int 0, .int 0, .ref (um 23), .ref (um 24)]))] H) (hD : va_D A [(hh, .inr (10, [.int (nI jn), .ref (uh 0), .ref (uh 1), .ref (uh 2), .ref (uh 3), .ref (uh 4), .ref (uh 5), .ref (uh 6)])), (uh 1, .inr (0, [.ref (uh 8), .ref (uh 9), .int 0, .int 0])), (uh 8, .inl (cR, 488, .inr (.inr (.inr (.inr (fun _ => none)))))), (mm, .inr (11, [.int (nI jn), .ref (um 0), .ref (um 1), .int 0, .int 0, .ref (um 2), .int 0, .int (-1), .int (-1), .int 0, .int 0, .int 0, .int 0, .int 0, .ref (um 3), .ref (um 4), .ref (um 5), .ref (um 6), .ref (um 7), .int 0, .int 0, .int 0, .ref (um 8), .ref (um 9), .ref (um 10), .int 0, .int 0, .ref (um 11), .int 0, .int 0, .ref (um 12), .ref (um 13), .ref (um 14), .ref (um 15), .ref (um 16), .int 0, .ref (um 17), .ref (um 18), .ref (um 19), .ref (um 20), .ref (um 21), .ref (um 22), .int 0, .int 0, .int 0, .ref (um 23), .ref (um 24)]))]) (hS : va_S A s.heap H locs) (hl : lv_has ls 4 [(0, .ref b), (1, .ref hh), (2, .ref mm), (3, .int 1)]) : W p l e room_1 s m #[Value.ref b] below meth c H locs 92 95787 (lw_Z below #[Value.ref b] s) (F0 m 594 ls []) := by
  have C0 := C
  obtain ⟨hx, hb, hr, hml, hown, hts, hX, hbl, hlocks, hK, hA, hA2⟩ := C
  have hbA : ¬ A b := fun q => absurd (hA2 b q) (Nat.not_le.mpr hbl)
  refine lv_aload_n hx hb dL_law_594 rfl (lv_at hl 1 rfl) ?_
  refine lv_aload_n hx hb dL_law_595 rfl (lv_at hl 0 rfl) ?_
  refine lv_iload_n hx hb dL_law_596 rfl (lv_at hl 3 rfl) ?_
  refine lv_iconst (v := 1) hx hb dL_law_597 (by decide) ?_
  refine lv_iadd hx hb dL_law_598 ?_
  refine lv_eqi (y := 2) (by decide) ?_
  refine va_sld hx hb hX hbl hbA hS (vp_in_nI (n := 2) (by decide) (by decide)) dL_law_599 ?_
  refine lv_eqi (y := xs 2) rfl ?_
  refine lv_aload_n hx hb dL_law_600 rfl (lv_at hl 0 rfl) ?_
  refine lv_iload_n hx hb dL_law_601 rfl (lv_at hl 3 rfl) ?_
  refine lv_iconst (v := 2) hx hb dL_law_602 (by decide) ?_
  refine lv_iadd hx hb dL_law_603 ?_
  refine lv_eqi (y := 3) (by decide) ?_
  refine va_sld hx hb hX hbl hbA hS (vp_in_nI (n := 3) (by decide) (by decide)) dL_law_604 ?_
  refine lv_eqi (y := xs 3) rfl ?_
  have hPc := hP.sub (ws' := [(hh, .inr (10, [.int (nI jn), .ref (uh 0), .ref (uh 1), .ref (uh 2), .ref (uh 3), .ref (uh 4), .ref (uh 5), .ref (uh 6)])), (uh 1, .inr (0, [.ref (uh 8), .ref (uh 9), .int 0, .int 0])), (uh 8, .inl (cR, 488, .inr (.inr (.inr (.inr (fun _ => none))))))]) [0, 1, 2] rfl
  have hDc := hD.sub (ws' := [(hh, .inr (10, [.int (nI jn), .ref (uh 0), .ref (uh 1), .ref (uh 2), .ref (uh 3), .ref (uh 4), .ref (uh 5), .ref (uh 6)])), (uh 1, .inr (0, [.ref (uh 8), .ref (uh 9), .int 0, .int 0])), (uh 8, .inl (cR, 488, .inr (.inr (.inr (.inr (fun _ => none))))))]) [0, 1, 2] (by decide) rfl
  refine ro (va_runV (As := [.int (xs 2), .int (xs 3)]) (rest := []) ⟨hx, hb, hml, hown, hts⟩ (c_state l D cI cR cM _ (xs 2) (xs 3) hh (.int (nI jn)) (.ref (uh 0)) (.ref (uh 2)) (.ref (uh 3)) (.ref (uh 4)) (.ref (uh 5)) (.ref (uh 6)) (uh 1) (uh 8) (uh 9)) (cwV 2 hts gL_law_X10_state rfl rfl rfl (by decide +kernel) ⟨Nat.le_of_ble_eq_true rfl, Nat.le_of_ble_eq_true rfl⟩) (pre_V hK hPc hDc 0 10 rfl rfl) rfl rfl hl.1 rfl (lv_room (Nat.le_of_ble_eq_true rfl)) dL_law_605 ⟨Nat.le_of_ble_eq_true rfl, Nat.le_of_ble_eq_true rfl⟩) hS hA hP (fun H locs hP hS => ?_)
  refine lv_aload_n hx hb dL_law_608 rfl (lv_at hl 2 rfl) ?_
  refine lv_aload_n hx hb dL_law_609 rfl (lv_at hl 0 rfl) ?_
  refine lv_iload_n hx hb dL_law_610 rfl (lv_at hl 3 rfl) ?_
  refine lv_iconst (v := 1) hx hb dL_law_611 (by decide) ?_
  refine lv_iadd hx hb dL_law_612 ?_
  refine lv_eqi (y := 2) (by decide) ?_
  refine va_sld hx hb hX hbl hbA hS (vp_in_nI (n := 2) (by decide) (by decide)) dL_law_613 ?_
  refine lv_eqi (y := xs 2) rfl ?_
  refine lv_aload_n hx hb dL_law_614 rfl (lv_at hl 0 rfl) ?_
  refine lv_iload_n hx hb dL_law_615 rfl (lv_at hl 3 rfl) ?_
  refine lv_iconst (v := 2) hx hb dL_law_616 (by decide) ?_
  refine lv_iadd hx hb dL_law_617 ?_
  refine lv_eqi (y := 3) (by decide) ?_
  refine va_sld hx hb hX hbl hbA hS (vp_in_nI (n := 3) (by decide) (by decide)) dL_law_618 ?_
  refine lv_eqi (y := xs 3) rfl ?_
  have hPc := hP.sub (ws' := [(mm, .inr (11, [.int (nI jn), .ref (um 0), .ref (um 1), .int 0, .int 0, .ref (um 2), .int 0, .int (-1), .int (-1), .int 0, .int 0, .int 0, .int 0, .int 0, .ref (um 3), .ref (um 4), .ref (um 5), .ref (um 6), .ref (um 7), .int 0, .int 0, .int 0, .ref (um 8), .ref (um 9), .ref (um 10), .int 0, .int 0, .ref (um 11), .int 0, .int 0, .ref (um 12), .ref (um 13), .ref (um 14), .ref (um 15), .ref (um 16), .int 0, .ref (um 17), .ref (um 18), .ref (um 19), .ref (um 20), .ref (um 21), .ref (um 22), .int 0, .int 0, .int 0, .ref (um 23), .ref (um 24)]))]) [3] rfl
  have hDc := hD.sub (ws' := [(mm, .inr (11, [.int (nI jn), .ref (um 0), .ref (um 1), .int 0, .int 0, .ref (um 2), .int 0, .int (-1), .int (-1), .int 0, .int 0, .int 0, .int 0, .int 0, .ref (um 3), .ref (um 4), .ref (um 5), .ref (um 6), .ref (um 7), .int 0, .int 0, .int 0, .ref (um 8), .ref (um 9), .ref (um 10), .int 0, .int 0, .ref (um 11), .int 0, .int 0, .ref (um 12), .ref (um 13), .ref (um 14), .ref (um 15), .ref (um 16), .int 0, .ref (um 17), .ref (um 18), .ref (um 19), .ref (um 20), .ref (um 21), .ref (um 22), .int 0, .int 0, .int 0, .ref (um 23), .ref (um 24)]))]) [3] (by decide) rfl
  refine ro (va_runV (As := [.int (xs 2), .int (xs 3)]) (rest := [.int (-1)]) ⟨hx, hb, hml, hown, hts⟩ (c_mstate l D cI cR cM _ (xs 2) (xs 3) mm [.int (nI jn), .ref (um 0), .ref (um 1), .int 0, .int 0, .ref (um 2), .int 0, .int (-1), .int (-1), .int 0, .int 0, .int 0, .int 0, .int 0, .ref (um 3), .ref (um 4), .ref (um 5), .ref (um 6), .ref (um 7), .int 0, .int 0, .int 0, .ref (um 8), .ref (um 9), .ref (um 10), .int 0, .int 0, .ref (um 11), .int 0, .int 0, .ref (um 12), .ref (um 13), .ref (um 14), .ref (um 15), .ref (um 16), .int 0, .ref (um 17), .ref (um 18), .ref (um 19), .ref (um 20), .ref (um 21), .ref (um 22), .int 0, .int 0, .int 0, .ref (um 23), .ref (um 24)] rfl) (cwV 2 hts gL_law_X11_state rfl rfl rfl (by decide +kernel) ⟨Nat.le_of_ble_eq_true rfl, Nat.le_of_ble_eq_true rfl⟩) (pre_V hK hPc hDc 0 11 rfl rfl) rfl rfl hl.1 rfl (lv_room (Nat.le_of_ble_eq_true rfl)) dL_law_619 ⟨Nat.le_of_ble_eq_true rfl, Nat.le_of_ble_eq_true rfl⟩) hS hA hP (fun H locs hP hS => ?_)
  refine lv_icmp_eq (tgt := 947) hx hb dL_law_622 (by decide) (fun c622 => ?_) (fun c622 => absurd (rfl) c622)
  exact law_end C0 _ _ _ hS (lv_sub hl [0, 3] rfl)
set_option maxRecDepth 100000 in
set_option maxHeartbeats 4000000 in
theorem law_c13 {p : Program} {l : Launch} {e : Env} {s : State} {m : MethodId} {below : List Frame} {meth : Method} {c : Code} {b : Nat} {xs : Nat → Int32} {A : Nat → Prop} {D : va_G} {cI cR cM : ClassId} {jn : Nat} {hh mm : Nat} {uh um : Nat → Nat} {H : Heap} {locs : List Loc} {ls : Array Slot} (C : LC p s m meth c b 7 xs A D cI cR cM) (hP : va_P D vwCl [(hh, .inr (10, [.int (nI jn), .ref (uh 0), .ref (uh 1), .ref (uh 2), .ref (uh 3), .ref (uh 4), .ref (uh 5), .ref (uh 6)])), (uh 4, .inr (9, [.ref (uh 43), .ref (uh 44), .ref (uh 45), .ref (uh 46)])), (uh 43, .inl (cI, 512, .inl (fun _ => 0))), (uh 44, .inl (cI, 512, .inl (fun _ => 0))), (uh 45, .inl (cI, 512, .inl (fun _ => 0))), (uh 46, .inl (cI, 512, .inl (fun _ => 0))), (mm, .inr (11, [.int (nI jn), .ref (um 0), .ref (um 1), .int 0, .int 0, .ref (um 2), .int 0, .int (-1), .int (-1), .int 0, .int 0, .int 0, .int 0, .int 0, .ref (um 3), .ref (um 4), .ref (um 5), .ref (um 6), .ref (um 7), .int 0, .int 0, .int 0, .ref (um 8), .ref (um 9), .ref (um 10), .int 0, .int 0, .ref (um 11), .int 0, .int 0, .ref (um 12), .ref (um 13), .ref (um 14), .ref (um 15), .ref (um 16), .int 0, .ref (um 17), .ref (um 18), .ref (um 19), .ref (um 20), .ref (um 21), .ref (um 22), .int 0, .int 0, .int 0, .ref (um 23), .ref (um 24)])), (um 17, .inl (cI, 512, .inl (fun _ => 0))), (um 18, .inl (cI, 512, .inl (fun _ => 0)))] H) (hD : va_D A [(hh, .inr (10, [.int (nI jn), .ref (uh 0), .ref (uh 1), .ref (uh 2), .ref (uh 3), .ref (uh 4), .ref (uh 5), .ref (uh 6)])), (uh 4, .inr (9, [.ref (uh 43), .ref (uh 44), .ref (uh 45), .ref (uh 46)])), (uh 43, .inl (cI, 512, .inl (fun _ => 0))), (uh 44, .inl (cI, 512, .inl (fun _ => 0))), (uh 45, .inl (cI, 512, .inl (fun _ => 0))), (uh 46, .inl (cI, 512, .inl (fun _ => 0))), (mm, .inr (11, [.int (nI jn), .ref (um 0), .ref (um 1), .int 0, .int 0, .ref (um 2), .int 0, .int (-1), .int (-1), .int 0, .int 0, .int 0, .int 0, .int 0, .ref (um 3), .ref (um 4), .ref (um 5), .ref (um 6), .ref (um 7), .int 0, .int 0, .int 0, .ref (um 8), .ref (um 9), .ref (um 10), .int 0, .int 0, .ref (um 11), .int 0, .int 0, .ref (um 12), .ref (um 13), .ref (um 14), .ref (um 15), .ref (um 16), .int 0, .ref (um 17), .ref (um 18), .ref (um 19), .ref (um 20), .ref (um 21), .ref (um 22), .int 0, .int 0, .int 0, .ref (um 23), .ref (um 24)])), (um 17, .inl (cI, 512, .inl (fun _ => 0))), (um 18, .inl (cI, 512, .inl (fun _ => 0)))]) (hS : va_S A s.heap H locs) (hl : lv_has ls 4 [(0, .ref b), (1, .ref hh), (2, .ref mm), (3, .int 1)]) : W p l e room_1 s m #[Value.ref b] below meth c H locs 92 95787 (lw_Z below #[Value.ref b] s) (F0 m 627 ls []) := by
  have C0 := C
  obtain ⟨hx, hb, hr, hml, hown, hts, hX, hbl, hlocks, hK, hA, hA2⟩ := C
  have hbA : ¬ A b := fun q => absurd (hA2 b q) (Nat.not_le.mpr hbl)
  refine lv_aload_n hx hb dL_law_627 rfl (lv_at hl 1 rfl) ?_
  refine lv_aload_n hx hb dL_law_628 rfl (lv_at hl 0 rfl) ?_
  refine lv_iload_n hx hb dL_law_629 rfl (lv_at hl 3 rfl) ?_
  refine lv_iconst (v := 1) hx hb dL_law_630 (by decide) ?_
  refine lv_iadd hx hb dL_law_631 ?_
  refine lv_eqi (y := 2) (by decide) ?_
  refine va_sld hx hb hX hbl hbA hS (vp_in_nI (n := 2) (by decide) (by decide)) dL_law_632 ?_
  refine lv_eqi (y := xs 2) rfl ?_
  refine lv_aload_n hx hb dL_law_633 rfl (lv_at hl 0 rfl) ?_
  refine lv_iload_n hx hb dL_law_634 rfl (lv_at hl 3 rfl) ?_
  refine lv_iconst (v := 2) hx hb dL_law_635 (by decide) ?_
  refine lv_iadd hx hb dL_law_636 ?_
  refine lv_eqi (y := 3) (by decide) ?_
  refine va_sld hx hb hX hbl hbA hS (vp_in_nI (n := 3) (by decide) (by decide)) dL_law_637 ?_
  refine lv_eqi (y := xs 3) rfl ?_
  refine lv_aload_n hx hb dL_law_638 rfl (lv_at hl 0 rfl) ?_
  refine lv_iload_n hx hb dL_law_639 rfl (lv_at hl 3 rfl) ?_
  refine lv_iconst (v := 3) hx hb dL_law_640 (by decide) ?_
  refine lv_iadd hx hb dL_law_641 ?_
  refine lv_eqi (y := 4) (by decide) ?_
  refine va_sld hx hb hX hbl hbA hS (vp_in_nI (n := 4) (by decide) (by decide)) dL_law_642 ?_
  refine lv_eqi (y := xs 4) rfl ?_
  have hPc := hP.sub (ws' := [(hh, .inr (10, [.int (nI jn), .ref (uh 0), .ref (uh 1), .ref (uh 2), .ref (uh 3), .ref (uh 4), .ref (uh 5), .ref (uh 6)])), (uh 4, .inr (9, [.ref (uh 43), .ref (uh 44), .ref (uh 45), .ref (uh 46)])), (uh 43, .inl (cI, 512, .inl (fun _ => 0))), (uh 44, .inl (cI, 512, .inl (fun _ => 0))), (uh 45, .inl (cI, 512, .inl (fun _ => 0))), (uh 46, .inl (cI, 512, .inl (fun _ => 0)))]) [0, 1, 2, 3, 4, 5] rfl
  have hDc := hD.sub (ws' := [(hh, .inr (10, [.int (nI jn), .ref (uh 0), .ref (uh 1), .ref (uh 2), .ref (uh 3), .ref (uh 4), .ref (uh 5), .ref (uh 6)])), (uh 4, .inr (9, [.ref (uh 43), .ref (uh 44), .ref (uh 45), .ref (uh 46)])), (uh 43, .inl (cI, 512, .inl (fun _ => 0))), (uh 44, .inl (cI, 512, .inl (fun _ => 0))), (uh 45, .inl (cI, 512, .inl (fun _ => 0))), (uh 46, .inl (cI, 512, .inl (fun _ => 0)))]) [0, 1, 2, 3, 4, 5] (by decide) rfl
  refine call_g (wr := [(mm, .inr (11, [.int (nI jn), .ref (um 0), .ref (um 1), .int 0, .int 0, .ref (um 2), .int 0, .int (-1), .int (-1), .int 0, .int 0, .int 0, .int 0, .int 0, .ref (um 3), .ref (um 4), .ref (um 5), .ref (um 6), .ref (um 7), .int 0, .int 0, .int 0, .ref (um 8), .ref (um 9), .ref (um 10), .int 0, .int 0, .ref (um 11), .int 0, .int 0, .ref (um 12), .ref (um 13), .ref (um 14), .ref (um 15), .ref (um 16), .int 0, .ref (um 17), .ref (um 18), .ref (um 19), .ref (um 20), .ref (um 21), .ref (um 22), .int 0, .int 0, .int 0, .ref (um 23), .ref (um 24)])), (um 17, .inl (cI, 512, .inl (fun _ => 0))), (um 18, .inl (cI, 512, .inl (fun _ => 0)))]) (va_runV (As := [.int (xs 2), .int (xs 3), .int (xs 4)]) (rest := []) ⟨hx, hb, hml, hown, hts⟩ (c_way l D cI cR cM _ (xs 2) (xs 3) (xs 4) hh (.int (nI jn)) (.ref (uh 0)) (.ref (uh 1)) (.ref (uh 2)) (.ref (uh 3)) (.ref (uh 5)) (.ref (uh 6)) (uh 4) (uh 43) (uh 44) (uh 45) (uh 46) (fun _ => 0) (fun _ => 0) (fun _ => 0) (fun _ => 0)) (cwV 3 hts gL_law_X10_way rfl rfl rfl (by decide +kernel) ⟨Nat.le_of_ble_eq_true rfl, Nat.le_of_ble_eq_true rfl⟩) (pre_V hK hPc hDc 0 10 rfl rfl) rfl rfl hl.1 rfl (lv_room (Nat.le_of_ble_eq_true rfl)) dL_law_643 ⟨Nat.le_of_ble_eq_true rfl, Nat.le_of_ble_eq_true rfl⟩) hP hD hS hA [0, 1, 2, 3, 4, 5] [6, 7, 8] rfl rfl (by decide) (by decide) (fun u1 H locs hw hP hD hS => ?_)
  obtain ⟨r1, v1, v2, v3, v4⟩ := u1
  have hw1 : WA (xs 2) (xs 3) (xs 4) r1 := hw
  have hP := hP.sub (ws' := [(mm, .inr (11, [.int (nI jn), .ref (um 0), .ref (um 1), .int 0, .int 0, .ref (um 2), .int 0, .int (-1), .int (-1), .int 0, .int 0, .int 0, .int 0, .int 0, .ref (um 3), .ref (um 4), .ref (um 5), .ref (um 6), .ref (um 7), .int 0, .int 0, .int 0, .ref (um 8), .ref (um 9), .ref (um 10), .int 0, .int 0, .ref (um 11), .int 0, .int 0, .ref (um 12), .ref (um 13), .ref (um 14), .ref (um 15), .ref (um 16), .int 0, .ref (um 17), .ref (um 18), .ref (um 19), .ref (um 20), .ref (um 21), .ref (um 22), .int 0, .int 0, .int 0, .ref (um 23), .ref (um 24)])), (um 17, .inl (cI, 512, .inl (fun _ => 0))), (um 18, .inl (cI, 512, .inl (fun _ => 0)))]) [0, 1, 2] rfl
  have hD := hD.sub (ws' := [(mm, .inr (11, [.int (nI jn), .ref (um 0), .ref (um 1), .int 0, .int 0, .ref (um 2), .int 0, .int (-1), .int (-1), .int 0, .int 0, .int 0, .int 0, .int 0, .ref (um 3), .ref (um 4), .ref (um 5), .ref (um 6), .ref (um 7), .int 0, .int 0, .int 0, .ref (um 8), .ref (um 9), .ref (um 10), .int 0, .int 0, .ref (um 11), .int 0, .int 0, .ref (um 12), .ref (um 13), .ref (um 14), .ref (um 15), .ref (um 16), .int 0, .ref (um 17), .ref (um 18), .ref (um 19), .ref (um 20), .ref (um 21), .ref (um 22), .int 0, .int 0, .int 0, .ref (um 23), .ref (um 24)])), (um 17, .inl (cI, 512, .inl (fun _ => 0))), (um 18, .inl (cI, 512, .inl (fun _ => 0)))]) [0, 1, 2] (by decide) rfl
  have hP : va_P D vwCl [(mm, .inr (11, [.int (nI jn), .ref (um 0), .ref (um 1), .int 0, .int 0, .ref (um 2), .int 0, .int (-1), .int (-1), .int 0, .int 0, .int 0, .int 0, .int 0, .ref (um 3), .ref (um 4), .ref (um 5), .ref (um 6), .ref (um 7), .int 0, .int 0, .int 0, .ref (um 8), .ref (um 9), .ref (um 10), .int 0, .int 0, .ref (um 11), .int 0, .int 0, .ref (um 12), .ref (um 13), .ref (um 14), .ref (um 15), .ref (um 16), .int 0, .ref (um 17), .ref (um 18), .ref (um 19), .ref (um 20), .ref (um 21), .ref (um 22), .int 0, .int 0, .int 0, .ref (um 23), .ref (um 24)])), (um 17, .inl (cI, 512, .inl (fun _ => 0))), (um 18, .inl (cI, 512, .inl (fun _ => 0)))] H := hP
  have hD : va_D A [(mm, .inr (11, [.int (nI jn), .ref (um 0), .ref (um 1), .int 0, .int 0, .ref (um 2), .int 0, .int (-1), .int (-1), .int 0, .int 0, .int 0, .int 0, .int 0, .ref (um 3), .ref (um 4), .ref (um 5), .ref (um 6), .ref (um 7), .int 0, .int 0, .int 0, .ref (um 8), .ref (um 9), .ref (um 10), .int 0, .int 0, .ref (um 11), .int 0, .int 0, .ref (um 12), .ref (um 13), .ref (um 14), .ref (um 15), .ref (um 16), .int 0, .ref (um 17), .ref (um 18), .ref (um 19), .ref (um 20), .ref (um 21), .ref (um 22), .int 0, .int 0, .int 0, .ref (um 23), .ref (um 24)])), (um 17, .inl (cI, 512, .inl (fun _ => 0))), (um 18, .inl (cI, 512, .inl (fun _ => 0)))] := hD
  refine lv_aload_n hx hb dL_law_646 rfl (lv_at hl 2 rfl) ?_
  refine lv_aload_n hx hb dL_law_647 rfl (lv_at hl 0 rfl) ?_
  refine lv_iload_n hx hb dL_law_648 rfl (lv_at hl 3 rfl) ?_
  refine lv_iconst (v := 1) hx hb dL_law_649 (by decide) ?_
  refine lv_iadd hx hb dL_law_650 ?_
  refine lv_eqi (y := 2) (by decide) ?_
  refine va_sld hx hb hX hbl hbA hS (vp_in_nI (n := 2) (by decide) (by decide)) dL_law_651 ?_
  refine lv_eqi (y := xs 2) rfl ?_
  refine lv_aload_n hx hb dL_law_652 rfl (lv_at hl 0 rfl) ?_
  refine lv_iload_n hx hb dL_law_653 rfl (lv_at hl 3 rfl) ?_
  refine lv_iconst (v := 2) hx hb dL_law_654 (by decide) ?_
  refine lv_iadd hx hb dL_law_655 ?_
  refine lv_eqi (y := 3) (by decide) ?_
  refine va_sld hx hb hX hbl hbA hS (vp_in_nI (n := 3) (by decide) (by decide)) dL_law_656 ?_
  refine lv_eqi (y := xs 3) rfl ?_
  refine lv_aload_n hx hb dL_law_657 rfl (lv_at hl 0 rfl) ?_
  refine lv_iload_n hx hb dL_law_658 rfl (lv_at hl 3 rfl) ?_
  refine lv_iconst (v := 3) hx hb dL_law_659 (by decide) ?_
  refine lv_iadd hx hb dL_law_660 ?_
  refine lv_eqi (y := 4) (by decide) ?_
  refine va_sld hx hb hX hbl hbA hS (vp_in_nI (n := 4) (by decide) (by decide)) dL_law_661 ?_
  refine lv_eqi (y := xs 4) rfl ?_
  have hPc := hP.sub (ws' := [(mm, .inr (11, [.int (nI jn), .ref (um 0), .ref (um 1), .int 0, .int 0, .ref (um 2), .int 0, .int (-1), .int (-1), .int 0, .int 0, .int 0, .int 0, .int 0, .ref (um 3), .ref (um 4), .ref (um 5), .ref (um 6), .ref (um 7), .int 0, .int 0, .int 0, .ref (um 8), .ref (um 9), .ref (um 10), .int 0, .int 0, .ref (um 11), .int 0, .int 0, .ref (um 12), .ref (um 13), .ref (um 14), .ref (um 15), .ref (um 16), .int 0, .ref (um 17), .ref (um 18), .ref (um 19), .ref (um 20), .ref (um 21), .ref (um 22), .int 0, .int 0, .int 0, .ref (um 23), .ref (um 24)])), (um 17, .inl (cI, 512, .inl (fun _ => 0))), (um 18, .inl (cI, 512, .inl (fun _ => 0)))]) [0, 1, 2] rfl
  have hDc := hD.sub (ws' := [(mm, .inr (11, [.int (nI jn), .ref (um 0), .ref (um 1), .int 0, .int 0, .ref (um 2), .int 0, .int (-1), .int (-1), .int 0, .int 0, .int 0, .int 0, .int 0, .ref (um 3), .ref (um 4), .ref (um 5), .ref (um 6), .ref (um 7), .int 0, .int 0, .int 0, .ref (um 8), .ref (um 9), .ref (um 10), .int 0, .int 0, .ref (um 11), .int 0, .int 0, .ref (um 12), .ref (um 13), .ref (um 14), .ref (um 15), .ref (um 16), .int 0, .ref (um 17), .ref (um 18), .ref (um 19), .ref (um 20), .ref (um 21), .ref (um 22), .int 0, .int 0, .int 0, .ref (um 23), .ref (um 24)])), (um 17, .inl (cI, 512, .inl (fun _ => 0))), (um 18, .inl (cI, 512, .inl (fun _ => 0)))]) [0, 1, 2] (by decide) rfl
  refine call_g (wr := []) (va_runV (As := [.int (xs 2), .int (xs 3), .int (xs 4)]) (rest := [.int r1]) ⟨hx, hb, hml, hown, hts⟩ (c_mway l D cI cR cM _ (xs 2) (xs 3) (xs 4) mm [.int (nI jn), .ref (um 0), .ref (um 1), .int 0, .int 0, .ref (um 2), .int 0, .int (-1), .int (-1), .int 0, .int 0, .int 0, .int 0, .int 0, .ref (um 3), .ref (um 4), .ref (um 5), .ref (um 6), .ref (um 7), .int 0, .int 0, .int 0, .ref (um 8), .ref (um 9), .ref (um 10), .int 0, .int 0, .ref (um 11), .int 0, .int 0, .ref (um 12), .ref (um 13), .ref (um 14), .ref (um 15), .ref (um 16), .int 0, .ref (um 17), .ref (um 18), .ref (um 19), .ref (um 20), .ref (um 21), .ref (um 22), .int 0, .int 0, .int 0, .ref (um 23), .ref (um 24)] (um 17) (um 18) rfl rfl (fun _ => 0) (fun _ => 0) (fun _ _ => rfl)) (cwV 3 hts gL_law_X11_way rfl rfl rfl (by decide +kernel) ⟨Nat.le_of_ble_eq_true rfl, Nat.le_of_ble_eq_true rfl⟩) (pre_V hK hPc hDc 0 11 rfl rfl) rfl rfl hl.1 rfl (lv_room (Nat.le_of_ble_eq_true rfl)) dL_law_662 ⟨Nat.le_of_ble_eq_true rfl, Nat.le_of_ble_eq_true rfl⟩) hP hD hS hA [0, 1, 2] [] rfl rfl (by decide) (by decide) (fun u2 H locs hw hP hD hS => ?_)
  obtain ⟨r2, v5, v6⟩ := u2
  have hw2 : WA (xs 2) (xs 3) (xs 4) r2 := hw.1
  have hP := hP.sub (ws' := []) [] rfl
  have hD := hD.sub (ws' := []) [] (by decide) rfl
  have hP : va_P D vwCl [] H := hP
  have hD : va_D A [] := hD
  refine lv_icmp_eq (tgt := 947) hx hb dL_law_665 (by decide) (fun c665 => ?_) (fun c665 => absurd (WA.uniq hw1 hw2) c665)
  exact law_end C0 _ _ _ hS (lv_sub hl [0, 3] rfl)
set_option maxRecDepth 100000 in
set_option maxHeartbeats 4000000 in
theorem law_c14 {p : Program} {l : Launch} {e : Env} {s : State} {m : MethodId} {below : List Frame} {meth : Method} {c : Code} {b : Nat} {xs : Nat → Int32} {A : Nat → Prop} {D : va_G} {cI cR cM : ClassId} {jn : Nat} {hh mm : Nat} {uh um : Nat → Nat} {H : Heap} {locs : List Loc} {ls : Array Slot} (C : LC p s m meth c b 7 xs A D cI cR cM) (hP : va_P D vwCl [(hh, .inr (10, [.int (nI jn), .ref (uh 0), .ref (uh 1), .ref (uh 2), .ref (uh 3), .ref (uh 4), .ref (uh 5), .ref (uh 6)])), (mm, .inr (11, [.int (nI jn), .ref (um 0), .ref (um 1), .int 0, .int 0, .ref (um 2), .int 0, .int (-1), .int (-1), .int 0, .int 0, .int 0, .int 0, .int 0, .ref (um 3), .ref (um 4), .ref (um 5), .ref (um 6), .ref (um 7), .int 0, .int 0, .int 0, .ref (um 8), .ref (um 9), .ref (um 10), .int 0, .int 0, .ref (um 11), .int 0, .int 0, .ref (um 12), .ref (um 13), .ref (um 14), .ref (um 15), .ref (um 16), .int 0, .ref (um 17), .ref (um 18), .ref (um 19), .ref (um 20), .ref (um 21), .ref (um 22), .int 0, .int 0, .int 0, .ref (um 23), .ref (um 24)])), (um 19, .inl (cI, 11, .inl (fun _ => 0))), (um 20, .inl (cI, 11, .inl (fun _ => 0)))] H) (hD : va_D A [(hh, .inr (10, [.int (nI jn), .ref (uh 0), .ref (uh 1), .ref (uh 2), .ref (uh 3), .ref (uh 4), .ref (uh 5), .ref (uh 6)])), (mm, .inr (11, [.int (nI jn), .ref (um 0), .ref (um 1), .int 0, .int 0, .ref (um 2), .int 0, .int (-1), .int (-1), .int 0, .int 0, .int 0, .int 0, .int 0, .ref (um 3), .ref (um 4), .ref (um 5), .ref (um 6), .ref (um 7), .int 0, .int 0, .int 0, .ref (um 8), .ref (um 9), .ref (um 10), .int 0, .int 0, .ref (um 11), .int 0, .int 0, .ref (um 12), .ref (um 13), .ref (um 14), .ref (um 15), .ref (um 16), .int 0, .ref (um 17), .ref (um 18), .ref (um 19), .ref (um 20), .ref (um 21), .ref (um 22), .int 0, .int 0, .int 0, .ref (um 23), .ref (um 24)])), (um 19, .inl (cI, 11, .inl (fun _ => 0))), (um 20, .inl (cI, 11, .inl (fun _ => 0)))]) (hS : va_S A s.heap H locs) (hl : lv_has ls 4 [(0, .ref b), (1, .ref hh), (2, .ref mm), (3, .int 1)]) : W p l e room_1 s m #[Value.ref b] below meth c H locs 92 95787 (lw_Z below #[Value.ref b] s) (F0 m 670 ls []) := by
  have C0 := C
  obtain ⟨hx, hb, hr, hml, hown, hts, hX, hbl, hlocks, hK, hA, hA2⟩ := C
  have hbA : ¬ A b := fun q => absurd (hA2 b q) (Nat.not_le.mpr hbl)
  refine lv_aload_n hx hb dL_law_670 rfl (lv_at hl 1 rfl) ?_
  refine lv_aload_n hx hb dL_law_671 rfl (lv_at hl 0 rfl) ?_
  refine lv_iload_n hx hb dL_law_672 rfl (lv_at hl 3 rfl) ?_
  refine lv_iconst (v := 1) hx hb dL_law_673 (by decide) ?_
  refine lv_iadd hx hb dL_law_674 ?_
  refine lv_eqi (y := 2) (by decide) ?_
  refine va_sld hx hb hX hbl hbA hS (vp_in_nI (n := 2) (by decide) (by decide)) dL_law_675 ?_
  refine lv_eqi (y := xs 2) rfl ?_
  refine lv_aload_n hx hb dL_law_676 rfl (lv_at hl 0 rfl) ?_
  refine lv_iload_n hx hb dL_law_677 rfl (lv_at hl 3 rfl) ?_
  refine lv_iconst (v := 2) hx hb dL_law_678 (by decide) ?_
  refine lv_iadd hx hb dL_law_679 ?_
  refine lv_eqi (y := 3) (by decide) ?_
  refine va_sld hx hb hX hbl hbA hS (vp_in_nI (n := 3) (by decide) (by decide)) dL_law_680 ?_
  refine lv_eqi (y := xs 3) rfl ?_
  refine lv_aload_n hx hb dL_law_681 rfl (lv_at hl 0 rfl) ?_
  refine lv_iload_n hx hb dL_law_682 rfl (lv_at hl 3 rfl) ?_
  refine lv_iconst (v := 3) hx hb dL_law_683 (by decide) ?_
  refine lv_iadd hx hb dL_law_684 ?_
  refine lv_eqi (y := 4) (by decide) ?_
  refine va_sld hx hb hX hbl hbA hS (vp_in_nI (n := 4) (by decide) (by decide)) dL_law_685 ?_
  refine lv_eqi (y := xs 4) rfl ?_
  rcases Classical.em (LIn (xs 2) (xs 3) (xs 4)) with hin9 | hin9
  · obtain ⟨bits, hi, lf, hb9, hh1, hhi, hlf, e1, e2, e3⟩ := hin9
    rw [e1, e2, e3]
    have hPc := hP.sub (ws' := [(hh, .inr (10, [.int (nI jn), .ref (uh 0), .ref (uh 1), .ref (uh 2), .ref (uh 3), .ref (uh 4), .ref (uh 5), .ref (uh 6)]))]) [0] rfl
    have hDc := hD.sub (ws' := [(hh, .inr (10, [.int (nI jn), .ref (uh 0), .ref (uh 1), .ref (uh 2), .ref (uh 3), .ref (uh 4), .ref (uh 5), .ref (uh 6)]))]) [0] (by decide) rfl
    refine ro (va_runV (As := [.int (nI bits), .int (nI hi), .int (nI (lf + 1))]) (rest := []) ⟨hx, hb, hml, hown, hts⟩ (c_loops_in l D cI cR cM _ hb9 hh1 hhi hlf hh (.int (nI jn)) (.ref (uh 0)) (.ref (uh 1)) (.ref (uh 2)) (.ref (uh 3)) (.ref (uh 4)) (.ref (uh 5)) (.ref (uh 6))) (cwV 3 hts gL_law_X10_loops rfl rfl rfl (by decide +kernel) ⟨Nat.le_of_ble_eq_true rfl, Nat.le_of_ble_eq_true rfl⟩) (pre_V hK hPc hDc 0 10 rfl rfl) rfl rfl hl.1 rfl (lv_room (Nat.le_of_ble_eq_true rfl)) dL_law_686 ⟨Nat.le_of_ble_eq_true rfl, Nat.le_of_ble_eq_true rfl⟩) hS hA hP (fun H locs hP hS => ?_)
    refine lv_aload_n hx hb dL_law_689 rfl (lv_at hl 2 rfl) ?_
    refine lv_aload_n hx hb dL_law_690 rfl (lv_at hl 0 rfl) ?_
    refine lv_iload_n hx hb dL_law_691 rfl (lv_at hl 3 rfl) ?_
    refine lv_iconst (v := 1) hx hb dL_law_692 (by decide) ?_
    refine lv_iadd hx hb dL_law_693 ?_
    refine lv_eqi (y := 2) (by decide) ?_
    refine va_sld hx hb hX hbl hbA hS (vp_in_nI (n := 2) (by decide) (by decide)) dL_law_694 ?_
    refine lv_eqi (y := xs 2) rfl ?_
    refine lv_aload_n hx hb dL_law_695 rfl (lv_at hl 0 rfl) ?_
    refine lv_iload_n hx hb dL_law_696 rfl (lv_at hl 3 rfl) ?_
    refine lv_iconst (v := 2) hx hb dL_law_697 (by decide) ?_
    refine lv_iadd hx hb dL_law_698 ?_
    refine lv_eqi (y := 3) (by decide) ?_
    refine va_sld hx hb hX hbl hbA hS (vp_in_nI (n := 3) (by decide) (by decide)) dL_law_699 ?_
    refine lv_eqi (y := xs 3) rfl ?_
    refine lv_aload_n hx hb dL_law_700 rfl (lv_at hl 0 rfl) ?_
    refine lv_iload_n hx hb dL_law_701 rfl (lv_at hl 3 rfl) ?_
    refine lv_iconst (v := 3) hx hb dL_law_702 (by decide) ?_
    refine lv_iadd hx hb dL_law_703 ?_
    refine lv_eqi (y := 4) (by decide) ?_
    refine va_sld hx hb hX hbl hbA hS (vp_in_nI (n := 4) (by decide) (by decide)) dL_law_704 ?_
    refine lv_eqi (y := xs 4) rfl ?_
    rw [e1, e2, e3]
    have hPc := hP.sub (ws' := [(mm, .inr (11, [.int (nI jn), .ref (um 0), .ref (um 1), .int 0, .int 0, .ref (um 2), .int 0, .int (-1), .int (-1), .int 0, .int 0, .int 0, .int 0, .int 0, .ref (um 3), .ref (um 4), .ref (um 5), .ref (um 6), .ref (um 7), .int 0, .int 0, .int 0, .ref (um 8), .ref (um 9), .ref (um 10), .int 0, .int 0, .ref (um 11), .int 0, .int 0, .ref (um 12), .ref (um 13), .ref (um 14), .ref (um 15), .ref (um 16), .int 0, .ref (um 17), .ref (um 18), .ref (um 19), .ref (um 20), .ref (um 21), .ref (um 22), .int 0, .int 0, .int 0, .ref (um 23), .ref (um 24)])), (um 19, .inl (cI, 11, .inl (fun _ => 0))), (um 20, .inl (cI, 11, .inl (fun _ => 0)))]) [1, 2, 3] rfl
    have hDc := hD.sub (ws' := [(mm, .inr (11, [.int (nI jn), .ref (um 0), .ref (um 1), .int 0, .int 0, .ref (um 2), .int 0, .int (-1), .int (-1), .int 0, .int 0, .int 0, .int 0, .int 0, .ref (um 3), .ref (um 4), .ref (um 5), .ref (um 6), .ref (um 7), .int 0, .int 0, .int 0, .ref (um 8), .ref (um 9), .ref (um 10), .int 0, .int 0, .ref (um 11), .int 0, .int 0, .ref (um 12), .ref (um 13), .ref (um 14), .ref (um 15), .ref (um 16), .int 0, .ref (um 17), .ref (um 18), .ref (um 19), .ref (um 20), .ref (um 21), .ref (um 22), .int 0, .int 0, .int 0, .ref (um 23), .ref (um 24)])), (um 19, .inl (cI, 11, .inl (fun _ => 0))), (um 20, .inl (cI, 11, .inl (fun _ => 0)))]) [1, 2, 3] (by decide) rfl
    refine call_g (wr := [(hh, .inr (10, [.int (nI jn), .ref (uh 0), .ref (uh 1), .ref (uh 2), .ref (uh 3), .ref (uh 4), .ref (uh 5), .ref (uh 6)]))]) (va_runV (As := [.int (nI bits), .int (nI hi), .int (nI (lf + 1))]) (rest := [.int (nI (lpAll bits hi (lf + 1)))]) ⟨hx, hb, hml, hown, hts⟩ (c_mloops_in l D cI cR cM _ hb9 hh1 hhi hlf mm [.int (nI jn), .ref (um 0), .ref (um 1), .int 0, .int 0, .ref (um 2), .int 0, .int (-1), .int (-1), .int 0, .int 0, .int 0, .int 0, .int 0, .ref (um 3), .ref (um 4), .ref (um 5), .ref (um 6), .ref (um 7), .int 0, .int 0, .int 0, .ref (um 8), .ref (um 9), .ref (um 10), .int 0, .int 0, .ref (um 11), .int 0, .int 0, .ref (um 12), .ref (um 13), .ref (um 14), .ref (um 15), .ref (um 16), .int 0, .ref (um 17), .ref (um 18), .ref (um 19), .ref (um 20), .ref (um 21), .ref (um 22), .int 0, .int 0, .int 0, .ref (um 23), .ref (um 24)] (um 19) (um 20) rfl rfl (fun _ => 0) (fun _ => 0)) (cwV 3 hts gL_law_X11_loops rfl rfl rfl (by decide +kernel) ⟨Nat.le_of_ble_eq_true rfl, Nat.le_of_ble_eq_true rfl⟩) (pre_V hK hPc hDc 0 11 rfl rfl) rfl rfl hl.1 rfl (lv_room (Nat.le_of_ble_eq_true rfl)) dL_law_705 ⟨Nat.le_of_ble_eq_true rfl, Nat.le_of_ble_eq_true rfl⟩) hP hD hS hA [1, 2, 3] [0] rfl rfl (by decide) (by decide) (fun u2 H locs hw hP hD hS => ?_)
    have hP := hP.sub (ws' := [(hh, .inr (10, [.int (nI jn), .ref (uh 0), .ref (uh 1), .ref (uh 2), .ref (uh 3), .ref (uh 4), .ref (uh 5), .ref (uh 6)]))]) [0] rfl
    have hD := hD.sub (ws' := [(hh, .inr (10, [.int (nI jn), .ref (uh 0), .ref (uh 1), .ref (uh 2), .ref (uh 3), .ref (uh 4), .ref (uh 5), .ref (uh 6)]))]) [0] (by decide) rfl
    have hP : va_P D vwCl [(hh, .inr (10, [.int (nI jn), .ref (uh 0), .ref (uh 1), .ref (uh 2), .ref (uh 3), .ref (uh 4), .ref (uh 5), .ref (uh 6)]))] H := hP
    have hD : va_D A [(hh, .inr (10, [.int (nI jn), .ref (uh 0), .ref (uh 1), .ref (uh 2), .ref (uh 3), .ref (uh 4), .ref (uh 5), .ref (uh 6)]))] := hD
    refine lv_icmp_eq (tgt := 947) hx hb dL_law_708 (by decide) (fun c708 => ?_) (fun c708 => absurd (rfl) c708)
    exact law_end C0 _ _ _ hS (lv_sub hl [0, 3] rfl)
  · have hPc := hP.sub (ws' := [(hh, .inr (10, [.int (nI jn), .ref (uh 0), .ref (uh 1), .ref (uh 2), .ref (uh 3), .ref (uh 4), .ref (uh 5), .ref (uh 6)]))]) [0] rfl
    have hDc := hD.sub (ws' := [(hh, .inr (10, [.int (nI jn), .ref (uh 0), .ref (uh 1), .ref (uh 2), .ref (uh 3), .ref (uh 4), .ref (uh 5), .ref (uh 6)]))]) [0] (by decide) rfl
    refine ro (va_runV (As := [.int (xs 2), .int (xs 3), .int (xs 4)]) (rest := []) ⟨hx, hb, hml, hown, hts⟩ (c_loops_out l D cI cR cM _ hin9 hh (.int (nI jn)) (.ref (uh 0)) (.ref (uh 1)) (.ref (uh 2)) (.ref (uh 3)) (.ref (uh 4)) (.ref (uh 5)) (.ref (uh 6))) (cwV 3 hts gL_law_X10_loops rfl rfl rfl (by decide +kernel) ⟨Nat.le_of_ble_eq_true rfl, Nat.le_of_ble_eq_true rfl⟩) (pre_V hK hPc hDc 0 10 rfl rfl) rfl rfl hl.1 rfl (lv_room (Nat.le_of_ble_eq_true rfl)) dL_law_686 ⟨Nat.le_of_ble_eq_true rfl, Nat.le_of_ble_eq_true rfl⟩) hS hA hP (fun H locs hP hS => ?_)
    refine lv_aload_n hx hb dL_law_689 rfl (lv_at hl 2 rfl) ?_
    refine lv_aload_n hx hb dL_law_690 rfl (lv_at hl 0 rfl) ?_
    refine lv_iload_n hx hb dL_law_691 rfl (lv_at hl 3 rfl) ?_
    refine lv_iconst (v := 1) hx hb dL_law_692 (by decide) ?_
    refine lv_iadd hx hb dL_law_693 ?_
    refine lv_eqi (y := 2) (by decide) ?_
    refine va_sld hx hb hX hbl hbA hS (vp_in_nI (n := 2) (by decide) (by decide)) dL_law_694 ?_
    refine lv_eqi (y := xs 2) rfl ?_
    refine lv_aload_n hx hb dL_law_695 rfl (lv_at hl 0 rfl) ?_
    refine lv_iload_n hx hb dL_law_696 rfl (lv_at hl 3 rfl) ?_
    refine lv_iconst (v := 2) hx hb dL_law_697 (by decide) ?_
    refine lv_iadd hx hb dL_law_698 ?_
    refine lv_eqi (y := 3) (by decide) ?_
    refine va_sld hx hb hX hbl hbA hS (vp_in_nI (n := 3) (by decide) (by decide)) dL_law_699 ?_
    refine lv_eqi (y := xs 3) rfl ?_
    refine lv_aload_n hx hb dL_law_700 rfl (lv_at hl 0 rfl) ?_
    refine lv_iload_n hx hb dL_law_701 rfl (lv_at hl 3 rfl) ?_
    refine lv_iconst (v := 3) hx hb dL_law_702 (by decide) ?_
    refine lv_iadd hx hb dL_law_703 ?_
    refine lv_eqi (y := 4) (by decide) ?_
    refine va_sld hx hb hX hbl hbA hS (vp_in_nI (n := 4) (by decide) (by decide)) dL_law_704 ?_
    refine lv_eqi (y := xs 4) rfl ?_
    have hPc := hP.sub (ws' := [(mm, .inr (11, [.int (nI jn), .ref (um 0), .ref (um 1), .int 0, .int 0, .ref (um 2), .int 0, .int (-1), .int (-1), .int 0, .int 0, .int 0, .int 0, .int 0, .ref (um 3), .ref (um 4), .ref (um 5), .ref (um 6), .ref (um 7), .int 0, .int 0, .int 0, .ref (um 8), .ref (um 9), .ref (um 10), .int 0, .int 0, .ref (um 11), .int 0, .int 0, .ref (um 12), .ref (um 13), .ref (um 14), .ref (um 15), .ref (um 16), .int 0, .ref (um 17), .ref (um 18), .ref (um 19), .ref (um 20), .ref (um 21), .ref (um 22), .int 0, .int 0, .int 0, .ref (um 23), .ref (um 24)]))]) [1] rfl
    have hDc := hD.sub (ws' := [(mm, .inr (11, [.int (nI jn), .ref (um 0), .ref (um 1), .int 0, .int 0, .ref (um 2), .int 0, .int (-1), .int (-1), .int 0, .int 0, .int 0, .int 0, .int 0, .ref (um 3), .ref (um 4), .ref (um 5), .ref (um 6), .ref (um 7), .int 0, .int 0, .int 0, .ref (um 8), .ref (um 9), .ref (um 10), .int 0, .int 0, .ref (um 11), .int 0, .int 0, .ref (um 12), .ref (um 13), .ref (um 14), .ref (um 15), .ref (um 16), .int 0, .ref (um 17), .ref (um 18), .ref (um 19), .ref (um 20), .ref (um 21), .ref (um 22), .int 0, .int 0, .int 0, .ref (um 23), .ref (um 24)]))]) [1] (by decide) rfl
    refine ro (va_runV (As := [.int (xs 2), .int (xs 3), .int (xs 4)]) (rest := [.int (-1)]) ⟨hx, hb, hml, hown, hts⟩ (c_mloops_out l D cI cR cM _ hin9 mm [.int (nI jn), .ref (um 0), .ref (um 1), .int 0, .int 0, .ref (um 2), .int 0, .int (-1), .int (-1), .int 0, .int 0, .int 0, .int 0, .int 0, .ref (um 3), .ref (um 4), .ref (um 5), .ref (um 6), .ref (um 7), .int 0, .int 0, .int 0, .ref (um 8), .ref (um 9), .ref (um 10), .int 0, .int 0, .ref (um 11), .int 0, .int 0, .ref (um 12), .ref (um 13), .ref (um 14), .ref (um 15), .ref (um 16), .int 0, .ref (um 17), .ref (um 18), .ref (um 19), .ref (um 20), .ref (um 21), .ref (um 22), .int 0, .int 0, .int 0, .ref (um 23), .ref (um 24)]) (cwV 3 hts gL_law_X11_loops rfl rfl rfl (by decide +kernel) ⟨Nat.le_of_ble_eq_true rfl, Nat.le_of_ble_eq_true rfl⟩) (pre_V hK hPc hDc 0 11 rfl rfl) rfl rfl hl.1 rfl (lv_room (Nat.le_of_ble_eq_true rfl)) dL_law_705 ⟨Nat.le_of_ble_eq_true rfl, Nat.le_of_ble_eq_true rfl⟩) hS hA hP (fun H locs hP hS => ?_)
    refine lv_icmp_eq (tgt := 947) hx hb dL_law_708 (by decide) (fun c708 => ?_) (fun c708 => absurd (rfl) c708)
    exact law_end C0 _ _ _ hS (lv_sub hl [0, 3] rfl)
set_option maxRecDepth 100000 in
set_option maxHeartbeats 4000000 in
theorem law_c15 {p : Program} {l : Launch} {e : Env} {s : State} {m : MethodId} {below : List Frame} {meth : Method} {c : Code} {b : Nat} {xs : Nat → Int32} {A : Nat → Prop} {D : va_G} {cI cR cM : ClassId} {jn : Nat} {hh mm : Nat} {uh um : Nat → Nat} {H : Heap} {locs : List Loc} {ls : Array Slot} (C : LC p s m meth c b 7 xs A D cI cR cM) (hP : va_P D vwCl [(hh, .inr (10, [.int (nI jn), .ref (uh 0), .ref (uh 1), .ref (uh 2), .ref (uh 3), .ref (uh 4), .ref (uh 5), .ref (uh 6)])), (uh 5, .inr (6, [.ref (uh 47), .ref (uh 48), .int 0, .int 0])), (mm, .inr (11, [.int (nI jn), .ref (um 0), .ref (um 1), .int 0, .int 0, .ref (um 2), .int 0, .int (-1), .int (-1), .int 0, .int 0, .int 0, .int 0, .int 0, .ref (um 3), .ref (um 4), .ref (um 5), .ref (um 6), .ref (um 7), .int 0, .int 0, .int 0, .ref (um 8), .ref (um 9), .ref (um 10), .int 0, .int 0, .ref (um 11), .int 0, .int 0, .ref (um 12), .ref (um 13), .ref (um 14), .ref (um 15), .ref (um 16), .int 0, .ref (um 17), .ref (um 18), .ref (um 19), .ref (um 20), .ref (um 21), .ref (um 22), .int 0, .int 0, .int 0, .ref (um 23), .ref (um 24)]))] H) (hD : va_D A [(hh, .inr (10, [.int (nI jn), .ref (uh 0), .ref (uh 1), .ref (uh 2), .ref (uh 3), .ref (uh 4), .ref (uh 5), .ref (uh 6)])), (uh 5, .inr (6, [.ref (uh 47), .ref (uh 48), .int 0, .int 0])), (mm, .inr (11, [.int (nI jn), .ref (um 0), .ref (um 1), .int 0, .int 0, .ref (um 2), .int 0, .int (-1), .int (-1), .int 0, .int 0, .int 0, .int 0, .int 0, .ref (um 3), .ref (um 4), .ref (um 5), .ref (um 6), .ref (um 7), .int 0, .int 0, .int 0, .ref (um 8), .ref (um 9), .ref (um 10), .int 0, .int 0, .ref (um 11), .int 0, .int 0, .ref (um 12), .ref (um 13), .ref (um 14), .ref (um 15), .ref (um 16), .int 0, .ref (um 17), .ref (um 18), .ref (um 19), .ref (um 20), .ref (um 21), .ref (um 22), .int 0, .int 0, .int 0, .ref (um 23), .ref (um 24)]))]) (hS : va_S A s.heap H locs) (hl : lv_has ls 4 [(0, .ref b), (1, .ref hh), (2, .ref mm), (3, .int 1)]) : W p l e room_1 s m #[Value.ref b] below meth c H locs 92 95787 (lw_Z below #[Value.ref b] s) (F0 m 713 ls []) := by
  have C0 := C
  obtain ⟨hx, hb, hr, hml, hown, hts, hX, hbl, hlocks, hK, hA, hA2⟩ := C
  have hbA : ¬ A b := fun q => absurd (hA2 b q) (Nat.not_le.mpr hbl)
  refine lv_aload_n hx hb dL_law_713 rfl (lv_at hl 1 rfl) ?_
  have hPc := hP.sub (ws' := [(hh, .inr (10, [.int (nI jn), .ref (uh 0), .ref (uh 1), .ref (uh 2), .ref (uh 3), .ref (uh 4), .ref (uh 5), .ref (uh 6)])), (uh 5, .inr (6, [.ref (uh 47), .ref (uh 48), .int 0, .int 0]))]) [0, 1] rfl
  have hDc := hD.sub (ws' := [(hh, .inr (10, [.int (nI jn), .ref (uh 0), .ref (uh 1), .ref (uh 2), .ref (uh 3), .ref (uh 4), .ref (uh 5), .ref (uh 6)])), (uh 5, .inr (6, [.ref (uh 47), .ref (uh 48), .int 0, .int 0]))]) [0, 1] (by decide) rfl
  refine call_g (wr := [(mm, .inr (11, [.int (nI jn), .ref (um 0), .ref (um 1), .int 0, .int 0, .ref (um 2), .int 0, .int (-1), .int (-1), .int 0, .int 0, .int 0, .int 0, .int 0, .ref (um 3), .ref (um 4), .ref (um 5), .ref (um 6), .ref (um 7), .int 0, .int 0, .int 0, .ref (um 8), .ref (um 9), .ref (um 10), .int 0, .int 0, .ref (um 11), .int 0, .int 0, .ref (um 12), .ref (um 13), .ref (um 14), .ref (um 15), .ref (um 16), .int 0, .ref (um 17), .ref (um 18), .ref (um 19), .ref (um 20), .ref (um 21), .ref (um 22), .int 0, .int 0, .int 0, .ref (um 23), .ref (um 24)]))]) (va_runV (As := []) (rest := []) ⟨hx, hb, hml, hown, hts⟩ (c_clear l D cI cR cM _ hh (.int (nI jn)) (.ref (uh 0)) (.ref (uh 1)) (.ref (uh 2)) (.ref (uh 3)) (.ref (uh 4)) (.ref (uh 6)) (uh 5) (.ref (uh 47)) (.ref (uh 48)) (.int 0)) (cwV 0 hts gL_law_X10_clear rfl rfl rfl (by decide +kernel) ⟨Nat.le_of_ble_eq_true rfl, Nat.le_of_ble_eq_true rfl⟩) (pre_V hK hPc hDc 0 10 rfl rfl) rfl rfl hl.1 rfl (lv_room (Nat.le_of_ble_eq_true rfl)) dL_law_714 ⟨Nat.le_of_ble_eq_true rfl, Nat.le_of_ble_eq_true rfl⟩) hP hD hS hA [0, 1] [2] rfl rfl (by decide) (by decide) (fun _u H locs hw hP hD hS => ?_)
  have hP : va_P D vwCl [(mm, .inr (11, [.int (nI jn), .ref (um 0), .ref (um 1), .int 0, .int 0, .ref (um 2), .int 0, .int (-1), .int (-1), .int 0, .int 0, .int 0, .int 0, .int 0, .ref (um 3), .ref (um 4), .ref (um 5), .ref (um 6), .ref (um 7), .int 0, .int 0, .int 0, .ref (um 8), .ref (um 9), .ref (um 10), .int 0, .int 0, .ref (um 11), .int 0, .int 0, .ref (um 12), .ref (um 13), .ref (um 14), .ref (um 15), .ref (um 16), .int 0, .ref (um 17), .ref (um 18), .ref (um 19), .ref (um 20), .ref (um 21), .ref (um 22), .int 0, .int 0, .int 0, .ref (um 23), .ref (um 24)]))] H := hP
  have hD : va_D A [(mm, .inr (11, [.int (nI jn), .ref (um 0), .ref (um 1), .int 0, .int 0, .ref (um 2), .int 0, .int (-1), .int (-1), .int 0, .int 0, .int 0, .int 0, .int 0, .ref (um 3), .ref (um 4), .ref (um 5), .ref (um 6), .ref (um 7), .int 0, .int 0, .int 0, .ref (um 8), .ref (um 9), .ref (um 10), .int 0, .int 0, .ref (um 11), .int 0, .int 0, .ref (um 12), .ref (um 13), .ref (um 14), .ref (um 15), .ref (um 16), .int 0, .ref (um 17), .ref (um 18), .ref (um 19), .ref (um 20), .ref (um 21), .ref (um 22), .int 0, .int 0, .int 0, .ref (um 23), .ref (um 24)]))] := hD
  refine lv_aload_n hx hb dL_law_717 rfl (lv_at hl 2 rfl) ?_
  have hPc := hP.sub (ws' := [(mm, .inr (11, [.int (nI jn), .ref (um 0), .ref (um 1), .int 0, .int 0, .ref (um 2), .int 0, .int (-1), .int (-1), .int 0, .int 0, .int 0, .int 0, .int 0, .ref (um 3), .ref (um 4), .ref (um 5), .ref (um 6), .ref (um 7), .int 0, .int 0, .int 0, .ref (um 8), .ref (um 9), .ref (um 10), .int 0, .int 0, .ref (um 11), .int 0, .int 0, .ref (um 12), .ref (um 13), .ref (um 14), .ref (um 15), .ref (um 16), .int 0, .ref (um 17), .ref (um 18), .ref (um 19), .ref (um 20), .ref (um 21), .ref (um 22), .int 0, .int 0, .int 0, .ref (um 23), .ref (um 24)]))]) [0] rfl
  have hDc := hD.sub (ws' := [(mm, .inr (11, [.int (nI jn), .ref (um 0), .ref (um 1), .int 0, .int 0, .ref (um 2), .int 0, .int (-1), .int (-1), .int 0, .int 0, .int 0, .int 0, .int 0, .ref (um 3), .ref (um 4), .ref (um 5), .ref (um 6), .ref (um 7), .int 0, .int 0, .int 0, .ref (um 8), .ref (um 9), .ref (um 10), .int 0, .int 0, .ref (um 11), .int 0, .int 0, .ref (um 12), .ref (um 13), .ref (um 14), .ref (um 15), .ref (um 16), .int 0, .ref (um 17), .ref (um 18), .ref (um 19), .ref (um 20), .ref (um 21), .ref (um 22), .int 0, .int 0, .int 0, .ref (um 23), .ref (um 24)]))]) [0] (by decide) rfl
  refine call_g (wr := []) (va_runV (As := []) (rest := [.int 0]) ⟨hx, hb, hml, hown, hts⟩ (c_mclear l D cI cR cM _ mm (.int (nI jn)) (.ref (um 0)) (.ref (um 1)) (.int 0) (.int 0) (.ref (um 2)) (.int 0) (.int (-1)) (.int (-1)) (.int 0) (.int 0) (.int 0) (.int 0) (.int 0) (.ref (um 3)) (.ref (um 4)) (.ref (um 5)) (.ref (um 6)) (.ref (um 7)) (.int 0) (.int 0) (.int 0) (.ref (um 8)) (.ref (um 9)) (.ref (um 10)) (.int 0) (.int 0) (.ref (um 11)) (.int 0) (.int 0) (.ref (um 12)) (.ref (um 13)) (.ref (um 14)) (.ref (um 15)) (.ref (um 16)) (.int 0) (.ref (um 17)) (.ref (um 18)) (.ref (um 19)) (.ref (um 20)) (.ref (um 21)) (.ref (um 22)) (.int 0) (.int 0) (.ref (um 23)) (.ref (um 24))) (cwV 0 hts gL_law_X11_clear rfl rfl rfl (by decide +kernel) ⟨Nat.le_of_ble_eq_true rfl, Nat.le_of_ble_eq_true rfl⟩) (pre_V hK hPc hDc 0 11 rfl rfl) rfl rfl hl.1 rfl (lv_room (Nat.le_of_ble_eq_true rfl)) dL_law_718 ⟨Nat.le_of_ble_eq_true rfl, Nat.le_of_ble_eq_true rfl⟩) hP hD hS hA [0] [] rfl rfl (by decide) (by decide) (fun _u H locs hw hP hD hS => ?_)
  have hP : va_P D vwCl [] H := hP
  have hD : va_D A [] := hD
  refine lv_icmp_eq (tgt := 947) hx hb dL_law_721 (by decide) (fun c721 => ?_) (fun c721 => absurd (rfl) c721)
  exact law_end C0 _ _ _ hS (lv_sub hl [0, 3] rfl)
set_option maxRecDepth 100000 in
set_option maxHeartbeats 4000000 in
theorem law_c16 {p : Program} {l : Launch} {e : Env} {s : State} {m : MethodId} {below : List Frame} {meth : Method} {c : Code} {b : Nat} {xs : Nat → Int32} {A : Nat → Prop} {D : va_G} {cI cR cM : ClassId} {jn : Nat} {hh mm : Nat} {uh um : Nat → Nat} {H : Heap} {locs : List Loc} {ls : Array Slot} (C : LC p s m meth c b 7 xs A D cI cR cM) (hP : va_P D vwCl [(hh, .inr (10, [.int (nI jn), .ref (uh 0), .ref (uh 1), .ref (uh 2), .ref (uh 3), .ref (uh 4), .ref (uh 5), .ref (uh 6)])), (uh 1, .inr (0, [.ref (uh 8), .ref (uh 9), .int 0, .int 0])), (uh 8, .inl (cR, 488, .inr (.inr (.inr (.inr (fun _ => none)))))), (mm, .inr (11, [.int (nI jn), .ref (um 0), .ref (um 1), .int 0, .int 0, .ref (um 2), .int 0, .int (-1), .int (-1), .int 0, .int 0, .int 0, .int 0, .int 0, .ref (um 3), .ref (um 4), .ref (um 5), .ref (um 6), .ref (um 7), .int 0, .int 0, .int 0, .ref (um 8), .ref (um 9), .ref (um 10), .int 0, .int 0, .ref (um 11), .int 0, .int 0, .ref (um 12), .ref (um 13), .ref (um 14), .ref (um 15), .ref (um 16), .int 0, .ref (um 17), .ref (um 18), .ref (um 19), .ref (um 20), .ref (um 21), .ref (um 22), .int 0, .int 0, .int 0, .ref (um 23), .ref (um 24)]))] H) (hD : va_D A [(hh, .inr (10, [.int (nI jn), .ref (uh 0), .ref (uh 1), .ref (uh 2), .ref (uh 3), .ref (uh 4), .ref (uh 5), .ref (uh 6)])), (uh 1, .inr (0, [.ref (uh 8), .ref (uh 9), .int 0, .int 0])), (uh 8, .inl (cR, 488, .inr (.inr (.inr (.inr (fun _ => none)))))), (mm, .inr (11, [.int (nI jn), .ref (um 0), .ref (um 1), .int 0, .int 0, .ref (um 2), .int 0, .int (-1), .int (-1), .int 0, .int 0, .int 0, .int 0, .int 0, .ref (um 3), .ref (um 4), .ref (um 5), .ref (um 6), .ref (um 7), .int 0, .int 0, .int 0, .ref (um 8), .ref (um 9), .ref (um 10), .int 0, .int 0, .ref (um 11), .int 0, .int 0, .ref (um 12), .ref (um 13), .ref (um 14), .ref (um 15), .ref (um 16), .int 0, .ref (um 17), .ref (um 18), .ref (um 19), .ref (um 20), .ref (um 21), .ref (um 22), .int 0, .int 0, .int 0, .ref (um 23), .ref (um 24)]))]) (hS : va_S A s.heap H locs) (hl : lv_has ls 4 [(0, .ref b), (1, .ref hh), (2, .ref mm), (3, .int 1)]) : W p l e room_1 s m #[Value.ref b] below meth c H locs 92 95787 (lw_Z below #[Value.ref b] s) (F0 m 726 ls []) := by
  have C0 := C
  obtain ⟨hx, hb, hr, hml, hown, hts, hX, hbl, hlocks, hK, hA, hA2⟩ := C
  have hbA : ¬ A b := fun q => absurd (hA2 b q) (Nat.not_le.mpr hbl)
  refine lv_aload_n hx hb dL_law_726 rfl (lv_at hl 1 rfl) ?_
  refine lv_aload_n hx hb dL_law_727 rfl (lv_at hl 0 rfl) ?_
  refine lv_iload_n hx hb dL_law_728 rfl (lv_at hl 3 rfl) ?_
  refine lv_iconst (v := 1) hx hb dL_law_729 (by decide) ?_
  refine lv_iadd hx hb dL_law_730 ?_
  refine lv_eqi (y := 2) (by decide) ?_
  refine va_sld hx hb hX hbl hbA hS (vp_in_nI (n := 2) (by decide) (by decide)) dL_law_731 ?_
  refine lv_eqi (y := xs 2) rfl ?_
  refine lv_aload_n hx hb dL_law_732 rfl (lv_at hl 0 rfl) ?_
  refine lv_iload_n hx hb dL_law_733 rfl (lv_at hl 3 rfl) ?_
  refine lv_iconst (v := 2) hx hb dL_law_734 (by decide) ?_
  refine lv_iadd hx hb dL_law_735 ?_
  refine lv_eqi (y := 3) (by decide) ?_
  refine va_sld hx hb hX hbl hbA hS (vp_in_nI (n := 3) (by decide) (by decide)) dL_law_736 ?_
  refine lv_eqi (y := xs 3) rfl ?_
  have hPc := hP.sub (ws' := [(hh, .inr (10, [.int (nI jn), .ref (uh 0), .ref (uh 1), .ref (uh 2), .ref (uh 3), .ref (uh 4), .ref (uh 5), .ref (uh 6)])), (uh 1, .inr (0, [.ref (uh 8), .ref (uh 9), .int 0, .int 0])), (uh 8, .inl (cR, 488, .inr (.inr (.inr (.inr (fun _ => none))))))]) [0, 1, 2] rfl
  have hDc := hD.sub (ws' := [(hh, .inr (10, [.int (nI jn), .ref (uh 0), .ref (uh 1), .ref (uh 2), .ref (uh 3), .ref (uh 4), .ref (uh 5), .ref (uh 6)])), (uh 1, .inr (0, [.ref (uh 8), .ref (uh 9), .int 0, .int 0])), (uh 8, .inl (cR, 488, .inr (.inr (.inr (.inr (fun _ => none))))))]) [0, 1, 2] (by decide) rfl
  refine ro (va_runV (As := [.int (xs 2), .int (xs 3)]) (rest := []) ⟨hx, hb, hml, hown, hts⟩ (c_add l D cI cR cM _ (xs 2) (xs 3) hh (.int (nI jn)) (.ref (uh 0)) (.ref (uh 2)) (.ref (uh 3)) (.ref (uh 4)) (.ref (uh 5)) (.ref (uh 6)) (uh 1) (uh 8) (uh 9)) (cwV 2 hts gL_law_X10_add rfl rfl rfl (by decide +kernel) ⟨Nat.le_of_ble_eq_true rfl, Nat.le_of_ble_eq_true rfl⟩) (pre_V hK hPc hDc 0 10 rfl rfl) rfl rfl hl.1 rfl (lv_room (Nat.le_of_ble_eq_true rfl)) dL_law_737 ⟨Nat.le_of_ble_eq_true rfl, Nat.le_of_ble_eq_true rfl⟩) hS hA hP (fun H locs hP hS => ?_)
  refine lv_aload_n hx hb dL_law_740 rfl (lv_at hl 2 rfl) ?_
  refine lv_aload_n hx hb dL_law_741 rfl (lv_at hl 0 rfl) ?_
  refine lv_iload_n hx hb dL_law_742 rfl (lv_at hl 3 rfl) ?_
  refine lv_iconst (v := 1) hx hb dL_law_743 (by decide) ?_
  refine lv_iadd hx hb dL_law_744 ?_
  refine lv_eqi (y := 2) (by decide) ?_
  refine va_sld hx hb hX hbl hbA hS (vp_in_nI (n := 2) (by decide) (by decide)) dL_law_745 ?_
  refine lv_eqi (y := xs 2) rfl ?_
  refine lv_aload_n hx hb dL_law_746 rfl (lv_at hl 0 rfl) ?_
  refine lv_iload_n hx hb dL_law_747 rfl (lv_at hl 3 rfl) ?_
  refine lv_iconst (v := 2) hx hb dL_law_748 (by decide) ?_
  refine lv_iadd hx hb dL_law_749 ?_
  refine lv_eqi (y := 3) (by decide) ?_
  refine va_sld hx hb hX hbl hbA hS (vp_in_nI (n := 3) (by decide) (by decide)) dL_law_750 ?_
  refine lv_eqi (y := xs 3) rfl ?_
  have hPc := hP.sub (ws' := [(mm, .inr (11, [.int (nI jn), .ref (um 0), .ref (um 1), .int 0, .int 0, .ref (um 2), .int 0, .int (-1), .int (-1), .int 0, .int 0, .int 0, .int 0, .int 0, .ref (um 3), .ref (um 4), .ref (um 5), .ref (um 6), .ref (um 7), .int 0, .int 0, .int 0, .ref (um 8), .ref (um 9), .ref (um 10), .int 0, .int 0, .ref (um 11), .int 0, .int 0, .ref (um 12), .ref (um 13), .ref (um 14), .ref (um 15), .ref (um 16), .int 0, .ref (um 17), .ref (um 18), .ref (um 19), .ref (um 20), .ref (um 21), .ref (um 22), .int 0, .int 0, .int 0, .ref (um 23), .ref (um 24)]))]) [3] rfl
  have hDc := hD.sub (ws' := [(mm, .inr (11, [.int (nI jn), .ref (um 0), .ref (um 1), .int 0, .int 0, .ref (um 2), .int 0, .int (-1), .int (-1), .int 0, .int 0, .int 0, .int 0, .int 0, .ref (um 3), .ref (um 4), .ref (um 5), .ref (um 6), .ref (um 7), .int 0, .int 0, .int 0, .ref (um 8), .ref (um 9), .ref (um 10), .int 0, .int 0, .ref (um 11), .int 0, .int 0, .ref (um 12), .ref (um 13), .ref (um 14), .ref (um 15), .ref (um 16), .int 0, .ref (um 17), .ref (um 18), .ref (um 19), .ref (um 20), .ref (um 21), .ref (um 22), .int 0, .int 0, .int 0, .ref (um 23), .ref (um 24)]))]) [3] (by decide) rfl
  refine ro (va_runV (As := [.int (xs 2), .int (xs 3)]) (rest := [.int (-1)]) ⟨hx, hb, hml, hown, hts⟩ (c_madd l D cI cR cM _ (xs 2) (xs 3) mm [.int (nI jn), .ref (um 0), .ref (um 1), .int 0, .int 0, .ref (um 2), .int 0, .int (-1), .int (-1), .int 0, .int 0, .int 0, .int 0, .int 0, .ref (um 3), .ref (um 4), .ref (um 5), .ref (um 6), .ref (um 7), .int 0, .int 0, .int 0, .ref (um 8), .ref (um 9), .ref (um 10), .int 0, .int 0, .ref (um 11), .int 0, .int 0, .ref (um 12), .ref (um 13), .ref (um 14), .ref (um 15), .ref (um 16), .int 0, .ref (um 17), .ref (um 18), .ref (um 19), .ref (um 20), .ref (um 21), .ref (um 22), .int 0, .int 0, .int 0, .ref (um 23), .ref (um 24)] rfl) (cwV 2 hts gL_law_X11_add rfl rfl rfl (by decide +kernel) ⟨Nat.le_of_ble_eq_true rfl, Nat.le_of_ble_eq_true rfl⟩) (pre_V hK hPc hDc 0 11 rfl rfl) rfl rfl hl.1 rfl (lv_room (Nat.le_of_ble_eq_true rfl)) dL_law_751 ⟨Nat.le_of_ble_eq_true rfl, Nat.le_of_ble_eq_true rfl⟩) hS hA hP (fun H locs hP hS => ?_)
  refine lv_icmp_eq (tgt := 947) hx hb dL_law_754 (by decide) (fun c754 => ?_) (fun c754 => absurd (rfl) c754)
  exact law_end C0 _ _ _ hS (lv_sub hl [0, 3] rfl)
set_option maxRecDepth 100000 in
set_option maxHeartbeats 4000000 in
theorem law_c17 {p : Program} {l : Launch} {e : Env} {s : State} {m : MethodId} {below : List Frame} {meth : Method} {c : Code} {b : Nat} {xs : Nat → Int32} {A : Nat → Prop} {D : va_G} {cI cR cM : ClassId} {jn : Nat} {hh mm : Nat} {uh um : Nat → Nat} {H : Heap} {locs : List Loc} {ls : Array Slot} (C : LC p s m meth c b 7 xs A D cI cR cM) (hP : va_P D vwCl [(hh, .inr (10, [.int (nI jn), .ref (uh 0), .ref (uh 1), .ref (uh 2), .ref (uh 3), .ref (uh 4), .ref (uh 5), .ref (uh 6)])), (uh 5, .inr (6, [.ref (uh 47), .ref (uh 48), .int 0, .int 0])), (mm, .inr (11, [.int (nI jn), .ref (um 0), .ref (um 1), .int 0, .int 0, .ref (um 2), .int 0, .int (-1), .int (-1), .int 0, .int 0, .int 0, .int 0, .int 0, .ref (um 3), .ref (um 4), .ref (um 5), .ref (um 6), .ref (um 7), .int 0, .int 0, .int 0, .ref (um 8), .ref (um 9), .ref (um 10), .int 0, .int 0, .ref (um 11), .int 0, .int 0, .ref (um 12), .ref (um 13), .ref (um 14), .ref (um 15), .ref (um 16), .int 0, .ref (um 17), .ref (um 18), .ref (um 19), .ref (um 20), .ref (um 21), .ref (um 22), .int 0, .int 0, .int 0, .ref (um 23), .ref (um 24)]))] H) (hD : va_D A [(hh, .inr (10, [.int (nI jn), .ref (uh 0), .ref (uh 1), .ref (uh 2), .ref (uh 3), .ref (uh 4), .ref (uh 5), .ref (uh 6)])), (uh 5, .inr (6, [.ref (uh 47), .ref (uh 48), .int 0, .int 0])), (mm, .inr (11, [.int (nI jn), .ref (um 0), .ref (um 1), .int 0, .int 0, .ref (um 2), .int 0, .int (-1), .int (-1), .int 0, .int 0, .int 0, .int 0, .int 0, .ref (um 3), .ref (um 4), .ref (um 5), .ref (um 6), .ref (um 7), .int 0, .int 0, .int 0, .ref (um 8), .ref (um 9), .ref (um 10), .int 0, .int 0, .ref (um 11), .int 0, .int 0, .ref (um 12), .ref (um 13), .ref (um 14), .ref (um 15), .ref (um 16), .int 0, .ref (um 17), .ref (um 18), .ref (um 19), .ref (um 20), .ref (um 21), .ref (um 22), .int 0, .int 0, .int 0, .ref (um 23), .ref (um 24)]))]) (hS : va_S A s.heap H locs) (hl : lv_has ls 4 [(0, .ref b), (1, .ref hh), (2, .ref mm), (3, .int 1)]) : W p l e room_1 s m #[Value.ref b] below meth c H locs 92 95787 (lw_Z below #[Value.ref b] s) (F0 m 759 ls []) := by
  have C0 := C
  obtain ⟨hx, hb, hr, hml, hown, hts, hX, hbl, hlocks, hK, hA, hA2⟩ := C
  have hbA : ¬ A b := fun q => absurd (hA2 b q) (Nat.not_le.mpr hbl)
  refine lv_aload_n hx hb dL_law_759 rfl (lv_at hl 1 rfl) ?_
  refine lv_aload_n hx hb dL_law_760 rfl (lv_at hl 0 rfl) ?_
  refine lv_iload_n hx hb dL_law_761 rfl (lv_at hl 3 rfl) ?_
  refine lv_iconst (v := 1) hx hb dL_law_762 (by decide) ?_
  refine lv_iadd hx hb dL_law_763 ?_
  refine lv_eqi (y := 2) (by decide) ?_
  refine va_sld hx hb hX hbl hbA hS (vp_in_nI (n := 2) (by decide) (by decide)) dL_law_764 ?_
  refine lv_eqi (y := xs 2) rfl ?_
  refine lv_aload_n hx hb dL_law_765 rfl (lv_at hl 0 rfl) ?_
  refine lv_iload_n hx hb dL_law_766 rfl (lv_at hl 3 rfl) ?_
  refine lv_iconst (v := 2) hx hb dL_law_767 (by decide) ?_
  refine lv_iadd hx hb dL_law_768 ?_
  refine lv_eqi (y := 3) (by decide) ?_
  refine va_sld hx hb hX hbl hbA hS (vp_in_nI (n := 3) (by decide) (by decide)) dL_law_769 ?_
  refine lv_eqi (y := xs 3) rfl ?_
  have hPc := hP.sub (ws' := [(hh, .inr (10, [.int (nI jn), .ref (uh 0), .ref (uh 1), .ref (uh 2), .ref (uh 3), .ref (uh 4), .ref (uh 5), .ref (uh 6)])), (uh 5, .inr (6, [.ref (uh 47), .ref (uh 48), .int 0, .int 0]))]) [0, 1] rfl
  have hDc := hD.sub (ws' := [(hh, .inr (10, [.int (nI jn), .ref (uh 0), .ref (uh 1), .ref (uh 2), .ref (uh 3), .ref (uh 4), .ref (uh 5), .ref (uh 6)])), (uh 5, .inr (6, [.ref (uh 47), .ref (uh 48), .int 0, .int 0]))]) [0, 1] (by decide) rfl
  refine ro (va_runV (As := [.int (xs 2), .int (xs 3)]) (rest := []) ⟨hx, hb, hml, hown, hts⟩ (c_score l D cI cR cM _ (xs 2) (xs 3) hh (.int (nI jn)) (.ref (uh 0)) (.ref (uh 1)) (.ref (uh 2)) (.ref (uh 3)) (.ref (uh 4)) (.ref (uh 6)) (uh 5) (.ref (uh 47)) (.ref (uh 48)) (.int 0)) (cwV 2 hts gL_law_X10_score rfl rfl rfl (by decide +kernel) ⟨Nat.le_of_ble_eq_true rfl, Nat.le_of_ble_eq_true rfl⟩) (pre_V hK hPc hDc 0 10 rfl rfl) rfl rfl hl.1 rfl (lv_room (Nat.le_of_ble_eq_true rfl)) dL_law_770 ⟨Nat.le_of_ble_eq_true rfl, Nat.le_of_ble_eq_true rfl⟩) hS hA hP (fun H locs hP hS => ?_)
  refine lv_aload_n hx hb dL_law_773 rfl (lv_at hl 2 rfl) ?_
  refine lv_aload_n hx hb dL_law_774 rfl (lv_at hl 0 rfl) ?_
  refine lv_iload_n hx hb dL_law_775 rfl (lv_at hl 3 rfl) ?_
  refine lv_iconst (v := 1) hx hb dL_law_776 (by decide) ?_
  refine lv_iadd hx hb dL_law_777 ?_
  refine lv_eqi (y := 2) (by decide) ?_
  refine va_sld hx hb hX hbl hbA hS (vp_in_nI (n := 2) (by decide) (by decide)) dL_law_778 ?_
  refine lv_eqi (y := xs 2) rfl ?_
  refine lv_aload_n hx hb dL_law_779 rfl (lv_at hl 0 rfl) ?_
  refine lv_iload_n hx hb dL_law_780 rfl (lv_at hl 3 rfl) ?_
  refine lv_iconst (v := 2) hx hb dL_law_781 (by decide) ?_
  refine lv_iadd hx hb dL_law_782 ?_
  refine lv_eqi (y := 3) (by decide) ?_
  refine va_sld hx hb hX hbl hbA hS (vp_in_nI (n := 3) (by decide) (by decide)) dL_law_783 ?_
  refine lv_eqi (y := xs 3) rfl ?_
  have hPc := hP.sub (ws' := [(mm, .inr (11, [.int (nI jn), .ref (um 0), .ref (um 1), .int 0, .int 0, .ref (um 2), .int 0, .int (-1), .int (-1), .int 0, .int 0, .int 0, .int 0, .int 0, .ref (um 3), .ref (um 4), .ref (um 5), .ref (um 6), .ref (um 7), .int 0, .int 0, .int 0, .ref (um 8), .ref (um 9), .ref (um 10), .int 0, .int 0, .ref (um 11), .int 0, .int 0, .ref (um 12), .ref (um 13), .ref (um 14), .ref (um 15), .ref (um 16), .int 0, .ref (um 17), .ref (um 18), .ref (um 19), .ref (um 20), .ref (um 21), .ref (um 22), .int 0, .int 0, .int 0, .ref (um 23), .ref (um 24)]))]) [2] rfl
  have hDc := hD.sub (ws' := [(mm, .inr (11, [.int (nI jn), .ref (um 0), .ref (um 1), .int 0, .int 0, .ref (um 2), .int 0, .int (-1), .int (-1), .int 0, .int 0, .int 0, .int 0, .int 0, .ref (um 3), .ref (um 4), .ref (um 5), .ref (um 6), .ref (um 7), .int 0, .int 0, .int 0, .ref (um 8), .ref (um 9), .ref (um 10), .int 0, .int 0, .ref (um 11), .int 0, .int 0, .ref (um 12), .ref (um 13), .ref (um 14), .ref (um 15), .ref (um 16), .int 0, .ref (um 17), .ref (um 18), .ref (um 19), .ref (um 20), .ref (um 21), .ref (um 22), .int 0, .int 0, .int 0, .ref (um 23), .ref (um 24)]))]) [2] (by decide) rfl
  refine ro (va_runV (As := [.int (xs 2), .int (xs 3)]) (rest := [.int (-1)]) ⟨hx, hb, hml, hown, hts⟩ (c_mscore l D cI cR cM _ (xs 2) (xs 3) mm [.int (nI jn), .ref (um 0), .ref (um 1), .int 0, .int 0, .ref (um 2), .int 0, .int (-1), .int (-1), .int 0, .int 0, .int 0, .int 0, .int 0, .ref (um 3), .ref (um 4), .ref (um 5), .ref (um 6), .ref (um 7), .int 0, .int 0, .int 0, .ref (um 8), .ref (um 9), .ref (um 10), .int 0, .int 0, .ref (um 11), .int 0, .int 0, .ref (um 12), .ref (um 13), .ref (um 14), .ref (um 15), .ref (um 16), .int 0, .ref (um 17), .ref (um 18), .ref (um 19), .ref (um 20), .ref (um 21), .ref (um 22), .int 0, .int 0, .int 0, .ref (um 23), .ref (um 24)] rfl) (cwV 2 hts gL_law_X11_score rfl rfl rfl (by decide +kernel) ⟨Nat.le_of_ble_eq_true rfl, Nat.le_of_ble_eq_true rfl⟩) (pre_V hK hPc hDc 0 11 rfl rfl) rfl rfl hl.1 rfl (lv_room (Nat.le_of_ble_eq_true rfl)) dL_law_784 ⟨Nat.le_of_ble_eq_true rfl, Nat.le_of_ble_eq_true rfl⟩) hS hA hP (fun H locs hP hS => ?_)
  refine lv_icmp_eq (tgt := 947) hx hb dL_law_787 (by decide) (fun c787 => ?_) (fun c787 => absurd (rfl) c787)
  exact law_end C0 _ _ _ hS (lv_sub hl [0, 3] rfl)
set_option maxRecDepth 100000 in
set_option maxHeartbeats 4000000 in
theorem law_c18 {p : Program} {l : Launch} {e : Env} {s : State} {m : MethodId} {below : List Frame} {meth : Method} {c : Code} {b : Nat} {xs : Nat → Int32} {A : Nat → Prop} {D : va_G} {cI cR cM : ClassId} {jn : Nat} {hh mm : Nat} {uh um : Nat → Nat} {H : Heap} {locs : List Loc} {ls : Array Slot} (C : LC p s m meth c b 7 xs A D cI cR cM) (hP : va_P D vwCl [(hh, .inr (10, [.int (nI jn), .ref (uh 0), .ref (uh 1), .ref (uh 2), .ref (uh 3), .ref (uh 4), .ref (uh 5), .ref (uh 6)])), (uh 1, .inr (0, [.ref (uh 8), .ref (uh 9), .int 0, .int 0])), (uh 9, .inl (cM, 61, .inr (.inr (.inr (.inr (fun _ => none)))))), (mm, .inr (11, [.int (nI jn), .ref (um 0), .ref (um 1), .int 0, .int 0, .ref (um 2), .int 0, .int (-1), .int (-1), .int 0, .int 0, .int 0, .int 0, .int 0, .ref (um 3), .ref (um 4), .ref (um 5), .ref (um 6), .ref (um 7), .int 0, .int 0, .int 0, .ref (um 8), .ref (um 9), .ref (um 10), .int 0, .int 0, .ref (um 11), .int 0, .int 0, .ref (um 12), .ref (um 13), .ref (um 14), .ref (um 15), .ref (um 16), .int 0, .ref (um 17), .ref (um 18), .ref (um 19), .ref (um 20), .ref (um 21), .ref (um 22), .int 0, .int 0, .int 0, .ref (um 23), .ref (um 24)]))] H) (hD : va_D A [(hh, .inr (10, [.int (nI jn), .ref (uh 0), .ref (uh 1), .ref (uh 2), .ref (uh 3), .ref (uh 4), .ref (uh 5), .ref (uh 6)])), (uh 1, .inr (0, [.ref (uh 8), .ref (uh 9), .int 0, .int 0])), (uh 9, .inl (cM, 61, .inr (.inr (.inr (.inr (fun _ => none)))))), (mm, .inr (11, [.int (nI jn), .ref (um 0), .ref (um 1), .int 0, .int 0, .ref (um 2), .int 0, .int (-1), .int (-1), .int 0, .int 0, .int 0, .int 0, .int 0, .ref (um 3), .ref (um 4), .ref (um 5), .ref (um 6), .ref (um 7), .int 0, .int 0, .int 0, .ref (um 8), .ref (um 9), .ref (um 10), .int 0, .int 0, .ref (um 11), .int 0, .int 0, .ref (um 12), .ref (um 13), .ref (um 14), .ref (um 15), .ref (um 16), .int 0, .ref (um 17), .ref (um 18), .ref (um 19), .ref (um 20), .ref (um 21), .ref (um 22), .int 0, .int 0, .int 0, .ref (um 23), .ref (um 24)]))]) (hS : va_S A s.heap H locs) (hl : lv_has ls 4 [(0, .ref b), (1, .ref hh), (2, .ref mm), (3, .int 1)]) : W p l e room_1 s m #[Value.ref b] below meth c H locs 92 95787 (lw_Z below #[Value.ref b] s) (F0 m 792 ls []) := by
  have C0 := C
  obtain ⟨hx, hb, hr, hml, hown, hts, hX, hbl, hlocks, hK, hA, hA2⟩ := C
  have hbA : ¬ A b := fun q => absurd (hA2 b q) (Nat.not_le.mpr hbl)
  refine lv_aload_n hx hb dL_law_792 rfl (lv_at hl 1 rfl) ?_
  refine lv_aload_n hx hb dL_law_793 rfl (lv_at hl 0 rfl) ?_
  refine lv_iload_n hx hb dL_law_794 rfl (lv_at hl 3 rfl) ?_
  refine lv_iconst (v := 1) hx hb dL_law_795 (by decide) ?_
  refine lv_iadd hx hb dL_law_796 ?_
  refine lv_eqi (y := 2) (by decide) ?_
  refine va_sld hx hb hX hbl hbA hS (vp_in_nI (n := 2) (by decide) (by decide)) dL_law_797 ?_
  refine lv_eqi (y := xs 2) rfl ?_
  have hPc := hP.sub (ws' := [(hh, .inr (10, [.int (nI jn), .ref (uh 0), .ref (uh 1), .ref (uh 2), .ref (uh 3), .ref (uh 4), .ref (uh 5), .ref (uh 6)])), (uh 1, .inr (0, [.ref (uh 8), .ref (uh 9), .int 0, .int 0])), (uh 9, .inl (cM, 61, .inr (.inr (.inr (.inr (fun _ => none))))))]) [0, 1, 2] rfl
  have hDc := hD.sub (ws' := [(hh, .inr (10, [.int (nI jn), .ref (uh 0), .ref (uh 1), .ref (uh 2), .ref (uh 3), .ref (uh 4), .ref (uh 5), .ref (uh 6)])), (uh 1, .inr (0, [.ref (uh 8), .ref (uh 9), .int 0, .int 0])), (uh 9, .inl (cM, 61, .inr (.inr (.inr (.inr (fun _ => none))))))]) [0, 1, 2] (by decide) rfl
  refine ro (va_runV (As := [.int (xs 2)]) (rest := []) ⟨hx, hb, hml, hown, hts⟩ (c_seen l D cI cR cM _ (xs 2) hh (.int (nI jn)) (.ref (uh 0)) (.ref (uh 2)) (.ref (uh 3)) (.ref (uh 4)) (.ref (uh 5)) (.ref (uh 6)) (uh 1) (uh 8) (uh 9)) (cwV 1 hts gL_law_X10_seen rfl rfl rfl (by decide +kernel) ⟨Nat.le_of_ble_eq_true rfl, Nat.le_of_ble_eq_true rfl⟩) (pre_V hK hPc hDc 0 10 rfl rfl) rfl rfl hl.1 rfl (lv_room (Nat.le_of_ble_eq_true rfl)) dL_law_798 ⟨Nat.le_of_ble_eq_true rfl, Nat.le_of_ble_eq_true rfl⟩) hS hA hP (fun H locs hP hS => ?_)
  refine lv_aload_n hx hb dL_law_801 rfl (lv_at hl 2 rfl) ?_
  refine lv_aload_n hx hb dL_law_802 rfl (lv_at hl 0 rfl) ?_
  refine lv_iload_n hx hb dL_law_803 rfl (lv_at hl 3 rfl) ?_
  refine lv_iconst (v := 1) hx hb dL_law_804 (by decide) ?_
  refine lv_iadd hx hb dL_law_805 ?_
  refine lv_eqi (y := 2) (by decide) ?_
  refine va_sld hx hb hX hbl hbA hS (vp_in_nI (n := 2) (by decide) (by decide)) dL_law_806 ?_
  refine lv_eqi (y := xs 2) rfl ?_
  have hPc := hP.sub (ws' := [(mm, .inr (11, [.int (nI jn), .ref (um 0), .ref (um 1), .int 0, .int 0, .ref (um 2), .int 0, .int (-1), .int (-1), .int 0, .int 0, .int 0, .int 0, .int 0, .ref (um 3), .ref (um 4), .ref (um 5), .ref (um 6), .ref (um 7), .int 0, .int 0, .int 0, .ref (um 8), .ref (um 9), .ref (um 10), .int 0, .int 0, .ref (um 11), .int 0, .int 0, .ref (um 12), .ref (um 13), .ref (um 14), .ref (um 15), .ref (um 16), .int 0, .ref (um 17), .ref (um 18), .ref (um 19), .ref (um 20), .ref (um 21), .ref (um 22), .int 0, .int 0, .int 0, .ref (um 23), .ref (um 24)]))]) [3] rfl
  have hDc := hD.sub (ws' := [(mm, .inr (11, [.int (nI jn), .ref (um 0), .ref (um 1), .int 0, .int 0, .ref (um 2), .int 0, .int (-1), .int (-1), .int 0, .int 0, .int 0, .int 0, .int 0, .ref (um 3), .ref (um 4), .ref (um 5), .ref (um 6), .ref (um 7), .int 0, .int 0, .int 0, .ref (um 8), .ref (um 9), .ref (um 10), .int 0, .int 0, .ref (um 11), .int 0, .int 0, .ref (um 12), .ref (um 13), .ref (um 14), .ref (um 15), .ref (um 16), .int 0, .ref (um 17), .ref (um 18), .ref (um 19), .ref (um 20), .ref (um 21), .ref (um 22), .int 0, .int 0, .int 0, .ref (um 23), .ref (um 24)]))]) [3] (by decide) rfl
  refine ro (va_runV (As := [.int (xs 2)]) (rest := [.int (if xs 2 = 0 then 0 else -1)]) ⟨hx, hb, hml, hown, hts⟩ (c_mseen l D cI cR cM _ (xs 2) mm [.int (nI jn), .ref (um 0), .ref (um 1), .int 0, .int 0, .ref (um 2), .int 0, .int (-1), .int (-1), .int 0, .int 0, .int 0, .int 0, .int 0, .ref (um 3), .ref (um 4), .ref (um 5), .ref (um 6), .ref (um 7), .int 0, .int 0, .int 0, .ref (um 8), .ref (um 9), .ref (um 10), .int 0, .int 0, .ref (um 11), .int 0, .int 0, .ref (um 12), .ref (um 13), .ref (um 14), .ref (um 15), .ref (um 16), .int 0, .ref (um 17), .ref (um 18), .ref (um 19), .ref (um 20), .ref (um 21), .ref (um 22), .int 0, .int 0, .int 0, .ref (um 23), .ref (um 24)] rfl) (cwV 1 hts gL_law_X11_seen rfl rfl rfl (by decide +kernel) ⟨Nat.le_of_ble_eq_true rfl, Nat.le_of_ble_eq_true rfl⟩) (pre_V hK hPc hDc 0 11 rfl rfl) rfl rfl hl.1 rfl (lv_room (Nat.le_of_ble_eq_true rfl)) dL_law_807 ⟨Nat.le_of_ble_eq_true rfl, Nat.le_of_ble_eq_true rfl⟩) hS hA hP (fun H locs hP hS => ?_)
  refine lv_icmp_eq (tgt := 947) hx hb dL_law_810 (by decide) (fun c810 => ?_) (fun c810 => absurd (rfl) c810)
  exact law_end C0 _ _ _ hS (lv_sub hl [0, 3] rfl)
set_option maxRecDepth 100000 in
set_option maxHeartbeats 4000000 in
theorem law_c19 {p : Program} {l : Launch} {e : Env} {s : State} {m : MethodId} {below : List Frame} {meth : Method} {c : Code} {b : Nat} {xs : Nat → Int32} {A : Nat → Prop} {D : va_G} {cI cR cM : ClassId} {jn : Nat} {hh mm : Nat} {uh um : Nat → Nat} {H : Heap} {locs : List Loc} {ls : Array Slot} (C : LC p s m meth c b 7 xs A D cI cR cM) (hP : va_P D vwCl [(hh, .inr (10, [.int (nI jn), .ref (uh 0), .ref (uh 1), .ref (uh 2), .ref (uh 3), .ref (uh 4), .ref (uh 5), .ref (uh 6)])), (uh 1, .inr (0, [.ref (uh 8), .ref (uh 9), .int 0, .int 0])), (uh 9, .inl (cM, 61, .inr (.inr (.inr (.inr (fun _ => none)))))), (mm, .inr (11, [.int (nI jn), .ref (um 0), .ref (um 1), .int 0, .int 0, .ref (um 2), .int 0, .int (-1), .int (-1), .int 0, .int 0, .int 0, .int 0, .int 0, .ref (um 3), .ref (um 4), .ref (um 5), .ref (um 6), .ref (um 7), .int 0, .int 0, .int 0, .ref (um 8), .ref (um 9), .ref (um 10), .int 0, .int 0, .ref (um 11), .int 0, .int 0, .ref (um 12), .ref (um 13), .ref (um 14), .ref (um 15), .ref (um 16), .int 0, .ref (um 17), .ref (um 18), .ref (um 19), .ref (um 20), .ref (um 21), .ref (um 22), .int 0, .int 0, .int 0, .ref (um 23), .ref (um 24)]))] H) (hD : va_D A [(hh, .inr (10, [.int (nI jn), .ref (uh 0), .ref (uh 1), .ref (uh 2), .ref (uh 3), .ref (uh 4), .ref (uh 5), .ref (uh 6)])), (uh 1, .inr (0, [.ref (uh 8), .ref (uh 9), .int 0, .int 0])), (uh 9, .inl (cM, 61, .inr (.inr (.inr (.inr (fun _ => none)))))), (mm, .inr (11, [.int (nI jn), .ref (um 0), .ref (um 1), .int 0, .int 0, .ref (um 2), .int 0, .int (-1), .int (-1), .int 0, .int 0, .int 0, .int 0, .int 0, .ref (um 3), .ref (um 4), .ref (um 5), .ref (um 6), .ref (um 7), .int 0, .int 0, .int 0, .ref (um 8), .ref (um 9), .ref (um 10), .int 0, .int 0, .ref (um 11), .int 0, .int 0, .ref (um 12), .ref (um 13), .ref (um 14), .ref (um 15), .ref (um 16), .int 0, .ref (um 17), .ref (um 18), .ref (um 19), .ref (um 20), .ref (um 21), .ref (um 22), .int 0, .int 0, .int 0, .ref (um 23), .ref (um 24)]))]) (hS : va_S A s.heap H locs) (hl : lv_has ls 4 [(0, .ref b), (1, .ref hh), (2, .ref mm), (3, .int 1)]) : W p l e room_1 s m #[Value.ref b] below meth c H locs 92 95787 (lw_Z below #[Value.ref b] s) (F0 m 815 ls []) := by
  have C0 := C
  obtain ⟨hx, hb, hr, hml, hown, hts, hX, hbl, hlocks, hK, hA, hA2⟩ := C
  have hbA : ¬ A b := fun q => absurd (hA2 b q) (Nat.not_le.mpr hbl)
  refine lv_aload_n hx hb dL_law_815 rfl (lv_at hl 1 rfl) ?_
  refine lv_aload_n hx hb dL_law_816 rfl (lv_at hl 0 rfl) ?_
  refine lv_iload_n hx hb dL_law_817 rfl (lv_at hl 3 rfl) ?_
  refine lv_iconst (v := 1) hx hb dL_law_818 (by decide) ?_
  refine lv_iadd hx hb dL_law_819 ?_
  refine lv_eqi (y := 2) (by decide) ?_
  refine va_sld hx hb hX hbl hbA hS (vp_in_nI (n := 2) (by decide) (by decide)) dL_law_820 ?_
  refine lv_eqi (y := xs 2) rfl ?_
  refine lv_aload_n hx hb dL_law_821 rfl (lv_at hl 0 rfl) ?_
  refine lv_iload_n hx hb dL_law_822 rfl (lv_at hl 3 rfl) ?_
  refine lv_iconst (v := 2) hx hb dL_law_823 (by decide) ?_
  refine lv_iadd hx hb dL_law_824 ?_
  refine lv_eqi (y := 3) (by decide) ?_
  refine va_sld hx hb hX hbl hbA hS (vp_in_nI (n := 3) (by decide) (by decide)) dL_law_825 ?_
  refine lv_eqi (y := xs 3) rfl ?_
  have hPc := hP.sub (ws' := [(hh, .inr (10, [.int (nI jn), .ref (uh 0), .ref (uh 1), .ref (uh 2), .ref (uh 3), .ref (uh 4), .ref (uh 5), .ref (uh 6)])), (uh 1, .inr (0, [.ref (uh 8), .ref (uh 9), .int 0, .int 0])), (uh 9, .inl (cM, 61, .inr (.inr (.inr (.inr (fun _ => none))))))]) [0, 1, 2] rfl
  have hDc := hD.sub (ws' := [(hh, .inr (10, [.int (nI jn), .ref (uh 0), .ref (uh 1), .ref (uh 2), .ref (uh 3), .ref (uh 4), .ref (uh 5), .ref (uh 6)])), (uh 1, .inr (0, [.ref (uh 8), .ref (uh 9), .int 0, .int 0])), (uh 9, .inl (cM, 61, .inr (.inr (.inr (.inr (fun _ => none))))))]) [0, 1, 2] (by decide) rfl
  refine ro (va_runV (As := [.int (xs 2), .int (xs 3)]) (rest := []) ⟨hx, hb, hml, hown, hts⟩ (c_whole l D cI cR cM _ (xs 2) (xs 3) hh (.int (nI jn)) (.ref (uh 0)) (.ref (uh 2)) (.ref (uh 3)) (.ref (uh 4)) (.ref (uh 5)) (.ref (uh 6)) (uh 1) (uh 8) (uh 9)) (cwV 2 hts gL_law_X10_whole rfl rfl rfl (by decide +kernel) ⟨Nat.le_of_ble_eq_true rfl, Nat.le_of_ble_eq_true rfl⟩) (pre_V hK hPc hDc 0 10 rfl rfl) rfl rfl hl.1 rfl (lv_room (Nat.le_of_ble_eq_true rfl)) dL_law_826 ⟨Nat.le_of_ble_eq_true rfl, Nat.le_of_ble_eq_true rfl⟩) hS hA hP (fun H locs hP hS => ?_)
  refine lv_aload_n hx hb dL_law_829 rfl (lv_at hl 2 rfl) ?_
  refine lv_aload_n hx hb dL_law_830 rfl (lv_at hl 0 rfl) ?_
  refine lv_iload_n hx hb dL_law_831 rfl (lv_at hl 3 rfl) ?_
  refine lv_iconst (v := 1) hx hb dL_law_832 (by decide) ?_
  refine lv_iadd hx hb dL_law_833 ?_
  refine lv_eqi (y := 2) (by decide) ?_
  refine va_sld hx hb hX hbl hbA hS (vp_in_nI (n := 2) (by decide) (by decide)) dL_law_834 ?_
  refine lv_eqi (y := xs 2) rfl ?_
  refine lv_aload_n hx hb dL_law_835 rfl (lv_at hl 0 rfl) ?_
  refine lv_iload_n hx hb dL_law_836 rfl (lv_at hl 3 rfl) ?_
  refine lv_iconst (v := 2) hx hb dL_law_837 (by decide) ?_
  refine lv_iadd hx hb dL_law_838 ?_
  refine lv_eqi (y := 3) (by decide) ?_
  refine va_sld hx hb hX hbl hbA hS (vp_in_nI (n := 3) (by decide) (by decide)) dL_law_839 ?_
  refine lv_eqi (y := xs 3) rfl ?_
  have hPc := hP.sub (ws' := [(mm, .inr (11, [.int (nI jn), .ref (um 0), .ref (um 1), .int 0, .int 0, .ref (um 2), .int 0, .int (-1), .int (-1), .int 0, .int 0, .int 0, .int 0, .int 0, .ref (um 3), .ref (um 4), .ref (um 5), .ref (um 6), .ref (um 7), .int 0, .int 0, .int 0, .ref (um 8), .ref (um 9), .ref (um 10), .int 0, .int 0, .ref (um 11), .int 0, .int 0, .ref (um 12), .ref (um 13), .ref (um 14), .ref (um 15), .ref (um 16), .int 0, .ref (um 17), .ref (um 18), .ref (um 19), .ref (um 20), .ref (um 21), .ref (um 22), .int 0, .int 0, .int 0, .ref (um 23), .ref (um 24)]))]) [3] rfl
  have hDc := hD.sub (ws' := [(mm, .inr (11, [.int (nI jn), .ref (um 0), .ref (um 1), .int 0, .int 0, .ref (um 2), .int 0, .int (-1), .int (-1), .int 0, .int 0, .int 0, .int 0, .int 0, .ref (um 3), .ref (um 4), .ref (um 5), .ref (um 6), .ref (um 7), .int 0, .int 0, .int 0, .ref (um 8), .ref (um 9), .ref (um 10), .int 0, .int 0, .ref (um 11), .int 0, .int 0, .ref (um 12), .ref (um 13), .ref (um 14), .ref (um 15), .ref (um 16), .int 0, .ref (um 17), .ref (um 18), .ref (um 19), .ref (um 20), .ref (um 21), .ref (um 22), .int 0, .int 0, .int 0, .ref (um 23), .ref (um 24)]))]) [3] (by decide) rfl
  refine ro (va_runV (As := [.int (xs 2), .int (xs 3)]) (rest := [.int (-1)]) ⟨hx, hb, hml, hown, hts⟩ (c_mwhole l D cI cR cM _ (xs 2) (xs 3) mm [.int (nI jn), .ref (um 0), .ref (um 1), .int 0, .int 0, .ref (um 2), .int 0, .int (-1), .int (-1), .int 0, .int 0, .int 0, .int 0, .int 0, .ref (um 3), .ref (um 4), .ref (um 5), .ref (um 6), .ref (um 7), .int 0, .int 0, .int 0, .ref (um 8), .ref (um 9), .ref (um 10), .int 0, .int 0, .ref (um 11), .int 0, .int 0, .ref (um 12), .ref (um 13), .ref (um 14), .ref (um 15), .ref (um 16), .int 0, .ref (um 17), .ref (um 18), .ref (um 19), .ref (um 20), .ref (um 21), .ref (um 22), .int 0, .int 0, .int 0, .ref (um 23), .ref (um 24)] rfl) (cwV 2 hts gL_law_X11_whole rfl rfl rfl (by decide +kernel) ⟨Nat.le_of_ble_eq_true rfl, Nat.le_of_ble_eq_true rfl⟩) (pre_V hK hPc hDc 0 11 rfl rfl) rfl rfl hl.1 rfl (lv_room (Nat.le_of_ble_eq_true rfl)) dL_law_840 ⟨Nat.le_of_ble_eq_true rfl, Nat.le_of_ble_eq_true rfl⟩) hS hA hP (fun H locs hP hS => ?_)
  refine lv_icmp_eq (tgt := 947) hx hb dL_law_843 (by decide) (fun c843 => ?_) (fun c843 => absurd (rfl) c843)
  exact law_end C0 _ _ _ hS (lv_sub hl [0, 3] rfl)
set_option maxRecDepth 100000 in
set_option maxHeartbeats 4000000 in
theorem law_c20 {p : Program} {l : Launch} {e : Env} {s : State} {m : MethodId} {below : List Frame} {meth : Method} {c : Code} {b : Nat} {xs : Nat → Int32} {A : Nat → Prop} {D : va_G} {cI cR cM : ClassId} {jn : Nat} {hh mm : Nat} {uh um : Nat → Nat} {H : Heap} {locs : List Loc} {ls : Array Slot} (C : LC p s m meth c b 7 xs A D cI cR cM) (hP : va_P D vwCl [(hh, .inr (10, [.int (nI jn), .ref (uh 0), .ref (uh 1), .ref (uh 2), .ref (uh 3), .ref (uh 4), .ref (uh 5), .ref (uh 6)])), (uh 1, .inr (0, [.ref (uh 8), .ref (uh 9), .int 0, .int 0])), (uh 8, .inl (cR, 488, .inr (.inr (.inr (.inr (fun _ => none)))))), (mm, .inr (11, [.int (nI jn), .ref (um 0), .ref (um 1), .int 0, .int 0, .ref (um 2), .int 0, .int (-1), .int (-1), .int 0, .int 0, .int 0, .int 0, .int 0, .ref (um 3), .ref (um 4), .ref (um 5), .ref (um 6), .ref (um 7), .int 0, .int 0, .int 0, .ref (um 8), .ref (um 9), .ref (um 10), .int 0, .int 0, .ref (um 11), .int 0, .int 0, .ref (um 12), .ref (um 13), .ref (um 14), .ref (um 15), .ref (um 16), .int 0, .ref (um 17), .ref (um 18), .ref (um 19), .ref (um 20), .ref (um 21), .ref (um 22), .int 0, .int 0, .int 0, .ref (um 23), .ref (um 24)]))] H) (hD : va_D A [(hh, .inr (10, [.int (nI jn), .ref (uh 0), .ref (uh 1), .ref (uh 2), .ref (uh 3), .ref (uh 4), .ref (uh 5), .ref (uh 6)])), (uh 1, .inr (0, [.ref (uh 8), .ref (uh 9), .int 0, .int 0])), (uh 8, .inl (cR, 488, .inr (.inr (.inr (.inr (fun _ => none)))))), (mm, .inr (11, [.int (nI jn), .ref (um 0), .ref (um 1), .int 0, .int 0, .ref (um 2), .int 0, .int (-1), .int (-1), .int 0, .int 0, .int 0, .int 0, .int 0, .ref (um 3), .ref (um 4), .ref (um 5), .ref (um 6), .ref (um 7), .int 0, .int 0, .int 0, .ref (um 8), .ref (um 9), .ref (um 10), .int 0, .int 0, .ref (um 11), .int 0, .int 0, .ref (um 12), .ref (um 13), .ref (um 14), .ref (um 15), .ref (um 16), .int 0, .ref (um 17), .ref (um 18), .ref (um 19), .ref (um 20), .ref (um 21), .ref (um 22), .int 0, .int 0, .int 0, .ref (um 23), .ref (um 24)]))]) (hS : va_S A s.heap H locs) (hl : lv_has ls 4 [(0, .ref b), (1, .ref hh), (2, .ref mm), (3, .int 1)]) : W p l e room_1 s m #[Value.ref b] below meth c H locs 92 95787 (lw_Z below #[Value.ref b] s) (F0 m 848 ls []) := by
  have C0 := C
  obtain ⟨hx, hb, hr, hml, hown, hts, hX, hbl, hlocks, hK, hA, hA2⟩ := C
  have hbA : ¬ A b := fun q => absurd (hA2 b q) (Nat.not_le.mpr hbl)
  refine lv_aload_n hx hb dL_law_848 rfl (lv_at hl 1 rfl) ?_
  refine lv_aload_n hx hb dL_law_849 rfl (lv_at hl 0 rfl) ?_
  refine lv_iload_n hx hb dL_law_850 rfl (lv_at hl 3 rfl) ?_
  refine lv_iconst (v := 1) hx hb dL_law_851 (by decide) ?_
  refine lv_iadd hx hb dL_law_852 ?_
  refine lv_eqi (y := 2) (by decide) ?_
  refine va_sld hx hb hX hbl hbA hS (vp_in_nI (n := 2) (by decide) (by decide)) dL_law_853 ?_
  refine lv_eqi (y := xs 2) rfl ?_
  refine lv_aload_n hx hb dL_law_854 rfl (lv_at hl 0 rfl) ?_
  refine lv_iload_n hx hb dL_law_855 rfl (lv_at hl 3 rfl) ?_
  refine lv_iconst (v := 2) hx hb dL_law_856 (by decide) ?_
  refine lv_iadd hx hb dL_law_857 ?_
  refine lv_eqi (y := 3) (by decide) ?_
  refine va_sld hx hb hX hbl hbA hS (vp_in_nI (n := 3) (by decide) (by decide)) dL_law_858 ?_
  refine lv_eqi (y := xs 3) rfl ?_
  refine lv_aload_n hx hb dL_law_859 rfl (lv_at hl 0 rfl) ?_
  refine lv_iload_n hx hb dL_law_860 rfl (lv_at hl 3 rfl) ?_
  refine lv_iconst (v := 3) hx hb dL_law_861 (by decide) ?_
  refine lv_iadd hx hb dL_law_862 ?_
  refine lv_eqi (y := 4) (by decide) ?_
  refine va_sld hx hb hX hbl hbA hS (vp_in_nI (n := 4) (by decide) (by decide)) dL_law_863 ?_
  refine lv_eqi (y := xs 4) rfl ?_
  have hPc := hP.sub (ws' := [(hh, .inr (10, [.int (nI jn), .ref (uh 0), .ref (uh 1), .ref (uh 2), .ref (uh 3), .ref (uh 4), .ref (uh 5), .ref (uh 6)])), (uh 1, .inr (0, [.ref (uh 8), .ref (uh 9), .int 0, .int 0])), (uh 8, .inl (cR, 488, .inr (.inr (.inr (.inr (fun _ => none))))))]) [0, 1, 2] rfl
  have hDc := hD.sub (ws' := [(hh, .inr (10, [.int (nI jn), .ref (uh 0), .ref (uh 1), .ref (uh 2), .ref (uh 3), .ref (uh 4), .ref (uh 5), .ref (uh 6)])), (uh 1, .inr (0, [.ref (uh 8), .ref (uh 9), .int 0, .int 0])), (uh 8, .inl (cR, 488, .inr (.inr (.inr (.inr (fun _ => none))))))]) [0, 1, 2] (by decide) rfl
  refine ro (va_runV (As := [.int (xs 2), .int (xs 3), .int (xs 4)]) (rest := []) ⟨hx, hb, hml, hown, hts⟩ (c_drop l D cI cR cM _ (xs 2) (xs 3) (xs 4) hh (.int (nI jn)) (.ref (uh 0)) (.ref (uh 2)) (.ref (uh 3)) (.ref (uh 4)) (.ref (uh 5)) (.ref (uh 6)) (uh 1) (uh 8) (uh 9)) (cwV 3 hts gL_law_X10_drop rfl rfl rfl (by decide +kernel) ⟨Nat.le_of_ble_eq_true rfl, Nat.le_of_ble_eq_true rfl⟩) (pre_V hK hPc hDc 0 10 rfl rfl) rfl rfl hl.1 rfl (lv_room (Nat.le_of_ble_eq_true rfl)) dL_law_864 ⟨Nat.le_of_ble_eq_true rfl, Nat.le_of_ble_eq_true rfl⟩) hS hA hP (fun H locs hP hS => ?_)
  refine lv_aload_n hx hb dL_law_867 rfl (lv_at hl 2 rfl) ?_
  refine lv_aload_n hx hb dL_law_868 rfl (lv_at hl 0 rfl) ?_
  refine lv_iload_n hx hb dL_law_869 rfl (lv_at hl 3 rfl) ?_
  refine lv_iconst (v := 1) hx hb dL_law_870 (by decide) ?_
  refine lv_iadd hx hb dL_law_871 ?_
  refine lv_eqi (y := 2) (by decide) ?_
  refine va_sld hx hb hX hbl hbA hS (vp_in_nI (n := 2) (by decide) (by decide)) dL_law_872 ?_
  refine lv_eqi (y := xs 2) rfl ?_
  refine lv_aload_n hx hb dL_law_873 rfl (lv_at hl 0 rfl) ?_
  refine lv_iload_n hx hb dL_law_874 rfl (lv_at hl 3 rfl) ?_
  refine lv_iconst (v := 2) hx hb dL_law_875 (by decide) ?_
  refine lv_iadd hx hb dL_law_876 ?_
  refine lv_eqi (y := 3) (by decide) ?_
  refine va_sld hx hb hX hbl hbA hS (vp_in_nI (n := 3) (by decide) (by decide)) dL_law_877 ?_
  refine lv_eqi (y := xs 3) rfl ?_
  refine lv_aload_n hx hb dL_law_878 rfl (lv_at hl 0 rfl) ?_
  refine lv_iload_n hx hb dL_law_879 rfl (lv_at hl 3 rfl) ?_
  refine lv_iconst (v := 3) hx hb dL_law_880 (by decide) ?_
  refine lv_iadd hx hb dL_law_881 ?_
  refine lv_eqi (y := 4) (by decide) ?_
  refine va_sld hx hb hX hbl hbA hS (vp_in_nI (n := 4) (by decide) (by decide)) dL_law_882 ?_
  refine lv_eqi (y := xs 4) rfl ?_
  have hPc := hP.sub (ws' := [(mm, .inr (11, [.int (nI jn), .ref (um 0), .ref (um 1), .int 0, .int 0, .ref (um 2), .int 0, .int (-1), .int (-1), .int 0, .int 0, .int 0, .int 0, .int 0, .ref (um 3), .ref (um 4), .ref (um 5), .ref (um 6), .ref (um 7), .int 0, .int 0, .int 0, .ref (um 8), .ref (um 9), .ref (um 10), .int 0, .int 0, .ref (um 11), .int 0, .int 0, .ref (um 12), .ref (um 13), .ref (um 14), .ref (um 15), .ref (um 16), .int 0, .ref (um 17), .ref (um 18), .ref (um 19), .ref (um 20), .ref (um 21), .ref (um 22), .int 0, .int 0, .int 0, .ref (um 23), .ref (um 24)]))]) [3] rfl
  have hDc := hD.sub (ws' := [(mm, .inr (11, [.int (nI jn), .ref (um 0), .ref (um 1), .int 0, .int 0, .ref (um 2), .int 0, .int (-1), .int (-1), .int 0, .int 0, .int 0, .int 0, .int 0, .ref (um 3), .ref (um 4), .ref (um 5), .ref (um 6), .ref (um 7), .int 0, .int 0, .int 0, .ref (um 8), .ref (um 9), .ref (um 10), .int 0, .int 0, .ref (um 11), .int 0, .int 0, .ref (um 12), .ref (um 13), .ref (um 14), .ref (um 15), .ref (um 16), .int 0, .ref (um 17), .ref (um 18), .ref (um 19), .ref (um 20), .ref (um 21), .ref (um 22), .int 0, .int 0, .int 0, .ref (um 23), .ref (um 24)]))]) [3] (by decide) rfl
  refine ro (va_runV (As := [.int (xs 2), .int (xs 3), .int (xs 4)]) (rest := [.int (-1)]) ⟨hx, hb, hml, hown, hts⟩ (c_mdrop l D cI cR cM _ (xs 2) (xs 3) (xs 4) mm [.int (nI jn), .ref (um 0), .ref (um 1), .int 0, .int 0, .ref (um 2), .int 0, .int (-1), .int (-1), .int 0, .int 0, .int 0, .int 0, .int 0, .ref (um 3), .ref (um 4), .ref (um 5), .ref (um 6), .ref (um 7), .int 0, .int 0, .int 0, .ref (um 8), .ref (um 9), .ref (um 10), .int 0, .int 0, .ref (um 11), .int 0, .int 0, .ref (um 12), .ref (um 13), .ref (um 14), .ref (um 15), .ref (um 16), .int 0, .ref (um 17), .ref (um 18), .ref (um 19), .ref (um 20), .ref (um 21), .ref (um 22), .int 0, .int 0, .int 0, .ref (um 23), .ref (um 24)] rfl) (cwV 3 hts gL_law_X11_drop rfl rfl rfl (by decide +kernel) ⟨Nat.le_of_ble_eq_true rfl, Nat.le_of_ble_eq_true rfl⟩) (pre_V hK hPc hDc 0 11 rfl rfl) rfl rfl hl.1 rfl (lv_room (Nat.le_of_ble_eq_true rfl)) dL_law_883 ⟨Nat.le_of_ble_eq_true rfl, Nat.le_of_ble_eq_true rfl⟩) hS hA hP (fun H locs hP hS => ?_)
  refine lv_icmp_eq (tgt := 947) hx hb dL_law_886 (by decide) (fun c886 => ?_) (fun c886 => absurd (rfl) c886)
  exact law_end C0 _ _ _ hS (lv_sub hl [0, 3] rfl)
set_option maxRecDepth 100000 in
set_option maxHeartbeats 4000000 in
theorem law_c21 {p : Program} {l : Launch} {e : Env} {s : State} {m : MethodId} {below : List Frame} {meth : Method} {c : Code} {b : Nat} {xs : Nat → Int32} {A : Nat → Prop} {D : va_G} {cI cR cM : ClassId} {jn : Nat} {hh mm : Nat} {uh um : Nat → Nat} {H : Heap} {locs : List Loc} {ls : Array Slot} (C : LC p s m meth c b 7 xs A D cI cR cM) (hP : va_P D vwCl [(hh, .inr (10, [.int (nI jn), .ref (uh 0), .ref (uh 1), .ref (uh 2), .ref (uh 3), .ref (uh 4), .ref (uh 5), .ref (uh 6)])), (uh 1, .inr (0, [.ref (uh 8), .ref (uh 9), .int 0, .int 0])), (uh 8, .inl (cR, 488, .inr (.inr (.inr (.inr (fun _ => none)))))), (mm, .inr (11, [.int (nI jn), .ref (um 0), .ref (um 1), .int 0, .int 0, .ref (um 2), .int 0, .int (-1), .int (-1), .int 0, .int 0, .int 0, .int 0, .int 0, .ref (um 3), .ref (um 4), .ref (um 5), .ref (um 6), .ref (um 7), .int 0, .int 0, .int 0, .ref (um 8), .ref (um 9), .ref (um 10), .int 0, .int 0, .ref (um 11), .int 0, .int 0, .ref (um 12), .ref (um 13), .ref (um 14), .ref (um 15), .ref (um 16), .int 0, .ref (um 17), .ref (um 18), .ref (um 19), .ref (um 20), .ref (um 21), .ref (um 22), .int 0, .int 0, .int 0, .ref (um 23), .ref (um 24)]))] H) (hD : va_D A [(hh, .inr (10, [.int (nI jn), .ref (uh 0), .ref (uh 1), .ref (uh 2), .ref (uh 3), .ref (uh 4), .ref (uh 5), .ref (uh 6)])), (uh 1, .inr (0, [.ref (uh 8), .ref (uh 9), .int 0, .int 0])), (uh 8, .inl (cR, 488, .inr (.inr (.inr (.inr (fun _ => none)))))), (mm, .inr (11, [.int (nI jn), .ref (um 0), .ref (um 1), .int 0, .int 0, .ref (um 2), .int 0, .int (-1), .int (-1), .int 0, .int 0, .int 0, .int 0, .int 0, .ref (um 3), .ref (um 4), .ref (um 5), .ref (um 6), .ref (um 7), .int 0, .int 0, .int 0, .ref (um 8), .ref (um 9), .ref (um 10), .int 0, .int 0, .ref (um 11), .int 0, .int 0, .ref (um 12), .ref (um 13), .ref (um 14), .ref (um 15), .ref (um 16), .int 0, .ref (um 17), .ref (um 18), .ref (um 19), .ref (um 20), .ref (um 21), .ref (um 22), .int 0, .int 0, .int 0, .ref (um 23), .ref (um 24)]))]) (hS : va_S A s.heap H locs) (hl : lv_has ls 4 [(0, .ref b), (1, .ref hh), (2, .ref mm), (3, .int 1)]) : W p l e room_1 s m #[Value.ref b] below meth c H locs 92 95787 (lw_Z below #[Value.ref b] s) (F0 m 891 ls []) := by
  have C0 := C
  obtain ⟨hx, hb, hr, hml, hown, hts, hX, hbl, hlocks, hK, hA, hA2⟩ := C
  have hbA : ¬ A b := fun q => absurd (hA2 b q) (Nat.not_le.mpr hbl)
  refine lv_aload_n hx hb dL_law_891 rfl (lv_at hl 1 rfl) ?_
  refine lv_aload_n hx hb dL_law_892 rfl (lv_at hl 0 rfl) ?_
  refine lv_iload_n hx hb dL_law_893 rfl (lv_at hl 3 rfl) ?_
  refine lv_iconst (v := 1) hx hb dL_law_894 (by decide) ?_
  refine lv_iadd hx hb dL_law_895 ?_
  refine lv_eqi (y := 2) (by decide) ?_
  refine va_sld hx hb hX hbl hbA hS (vp_in_nI (n := 2) (by decide) (by decide)) dL_law_896 ?_
  refine lv_eqi (y := xs 2) rfl ?_
  refine lv_aload_n hx hb dL_law_897 rfl (lv_at hl 0 rfl) ?_
  refine lv_iload_n hx hb dL_law_898 rfl (lv_at hl 3 rfl) ?_
  refine lv_iconst (v := 2) hx hb dL_law_899 (by decide) ?_
  refine lv_iadd hx hb dL_law_900 ?_
  refine lv_eqi (y := 3) (by decide) ?_
  refine va_sld hx hb hX hbl hbA hS (vp_in_nI (n := 3) (by decide) (by decide)) dL_law_901 ?_
  refine lv_eqi (y := xs 3) rfl ?_
  have hPc := hP.sub (ws' := [(hh, .inr (10, [.int (nI jn), .ref (uh 0), .ref (uh 1), .ref (uh 2), .ref (uh 3), .ref (uh 4), .ref (uh 5), .ref (uh 6)])), (uh 1, .inr (0, [.ref (uh 8), .ref (uh 9), .int 0, .int 0])), (uh 8, .inl (cR, 488, .inr (.inr (.inr (.inr (fun _ => none))))))]) [0, 1, 2] rfl
  have hDc := hD.sub (ws' := [(hh, .inr (10, [.int (nI jn), .ref (uh 0), .ref (uh 1), .ref (uh 2), .ref (uh 3), .ref (uh 4), .ref (uh 5), .ref (uh 6)])), (uh 1, .inr (0, [.ref (uh 8), .ref (uh 9), .int 0, .int 0])), (uh 8, .inl (cR, 488, .inr (.inr (.inr (.inr (fun _ => none))))))]) [0, 1, 2] (by decide) rfl
  refine ro (va_runV (As := [.int (xs 2), .int (xs 3)]) (rest := []) ⟨hx, hb, hml, hown, hts⟩ (c_turned l D cI cR cM _ (xs 2) (xs 3) hh (.int (nI jn)) (.ref (uh 0)) (.ref (uh 2)) (.ref (uh 3)) (.ref (uh 4)) (.ref (uh 5)) (.ref (uh 6)) (uh 1) (uh 8) (uh 9)) (cwV 2 hts gL_law_X10_turned rfl rfl rfl (by decide +kernel) ⟨Nat.le_of_ble_eq_true rfl, Nat.le_of_ble_eq_true rfl⟩) (pre_V hK hPc hDc 0 10 rfl rfl) rfl rfl hl.1 rfl (lv_room (Nat.le_of_ble_eq_true rfl)) dL_law_902 ⟨Nat.le_of_ble_eq_true rfl, Nat.le_of_ble_eq_true rfl⟩) hS hA hP (fun H locs hP hS => ?_)
  refine lv_aload_n hx hb dL_law_905 rfl (lv_at hl 2 rfl) ?_
  refine lv_aload_n hx hb dL_law_906 rfl (lv_at hl 0 rfl) ?_
  refine lv_iload_n hx hb dL_law_907 rfl (lv_at hl 3 rfl) ?_
  refine lv_iconst (v := 1) hx hb dL_law_908 (by decide) ?_
  refine lv_iadd hx hb dL_law_909 ?_
  refine lv_eqi (y := 2) (by decide) ?_
  refine va_sld hx hb hX hbl hbA hS (vp_in_nI (n := 2) (by decide) (by decide)) dL_law_910 ?_
  refine lv_eqi (y := xs 2) rfl ?_
  refine lv_aload_n hx hb dL_law_911 rfl (lv_at hl 0 rfl) ?_
  refine lv_iload_n hx hb dL_law_912 rfl (lv_at hl 3 rfl) ?_
  refine lv_iconst (v := 2) hx hb dL_law_913 (by decide) ?_
  refine lv_iadd hx hb dL_law_914 ?_
  refine lv_eqi (y := 3) (by decide) ?_
  refine va_sld hx hb hX hbl hbA hS (vp_in_nI (n := 3) (by decide) (by decide)) dL_law_915 ?_
  refine lv_eqi (y := xs 3) rfl ?_
  have hPc := hP.sub (ws' := [(mm, .inr (11, [.int (nI jn), .ref (um 0), .ref (um 1), .int 0, .int 0, .ref (um 2), .int 0, .int (-1), .int (-1), .int 0, .int 0, .int 0, .int 0, .int 0, .ref (um 3), .ref (um 4), .ref (um 5), .ref (um 6), .ref (um 7), .int 0, .int 0, .int 0, .ref (um 8), .ref (um 9), .ref (um 10), .int 0, .int 0, .ref (um 11), .int 0, .int 0, .ref (um 12), .ref (um 13), .ref (um 14), .ref (um 15), .ref (um 16), .int 0, .ref (um 17), .ref (um 18), .ref (um 19), .ref (um 20), .ref (um 21), .ref (um 22), .int 0, .int 0, .int 0, .ref (um 23), .ref (um 24)]))]) [3] rfl
  have hDc := hD.sub (ws' := [(mm, .inr (11, [.int (nI jn), .ref (um 0), .ref (um 1), .int 0, .int 0, .ref (um 2), .int 0, .int (-1), .int (-1), .int 0, .int 0, .int 0, .int 0, .int 0, .ref (um 3), .ref (um 4), .ref (um 5), .ref (um 6), .ref (um 7), .int 0, .int 0, .int 0, .ref (um 8), .ref (um 9), .ref (um 10), .int 0, .int 0, .ref (um 11), .int 0, .int 0, .ref (um 12), .ref (um 13), .ref (um 14), .ref (um 15), .ref (um 16), .int 0, .ref (um 17), .ref (um 18), .ref (um 19), .ref (um 20), .ref (um 21), .ref (um 22), .int 0, .int 0, .int 0, .ref (um 23), .ref (um 24)]))]) [3] (by decide) rfl
  refine ro (va_runV (As := [.int (xs 2), .int (xs 3)]) (rest := [.int (-1)]) ⟨hx, hb, hml, hown, hts⟩ (c_mturned l D cI cR cM _ (xs 2) (xs 3) mm [.int (nI jn), .ref (um 0), .ref (um 1), .int 0, .int 0, .ref (um 2), .int 0, .int (-1), .int (-1), .int 0, .int 0, .int 0, .int 0, .int 0, .ref (um 3), .ref (um 4), .ref (um 5), .ref (um 6), .ref (um 7), .int 0, .int 0, .int 0, .ref (um 8), .ref (um 9), .ref (um 10), .int 0, .int 0, .ref (um 11), .int 0, .int 0, .ref (um 12), .ref (um 13), .ref (um 14), .ref (um 15), .ref (um 16), .int 0, .ref (um 17), .ref (um 18), .ref (um 19), .ref (um 20), .ref (um 21), .ref (um 22), .int 0, .int 0, .int 0, .ref (um 23), .ref (um 24)] rfl) (cwV 2 hts gL_law_X11_turned rfl rfl rfl (by decide +kernel) ⟨Nat.le_of_ble_eq_true rfl, Nat.le_of_ble_eq_true rfl⟩) (pre_V hK hPc hDc 0 11 rfl rfl) rfl rfl hl.1 rfl (lv_room (Nat.le_of_ble_eq_true rfl)) dL_law_916 ⟨Nat.le_of_ble_eq_true rfl, Nat.le_of_ble_eq_true rfl⟩) hS hA hP (fun H locs hP hS => ?_)
  refine lv_icmp_eq (tgt := 947) hx hb dL_law_919 (by decide) (fun c919 => ?_) (fun c919 => absurd (rfl) c919)
  exact law_end C0 _ _ _ hS (lv_sub hl [0, 3] rfl)
set_option maxRecDepth 100000 in
set_option maxHeartbeats 4000000 in
theorem law_c22 {p : Program} {l : Launch} {e : Env} {s : State} {m : MethodId} {below : List Frame} {meth : Method} {c : Code} {b : Nat} {xs : Nat → Int32} {A : Nat → Prop} {D : va_G} {cI cR cM : ClassId} {jn : Nat} {hh mm : Nat} {uh um : Nat → Nat} {H : Heap} {locs : List Loc} {ls : Array Slot} (C : LC p s m meth c b 7 xs A D cI cR cM) (hP : va_P D vwCl [(hh, .inr (10, [.int (nI jn), .ref (uh 0), .ref (uh 1), .ref (uh 2), .ref (uh 3), .ref (uh 4), .ref (uh 5), .ref (uh 6)])), (uh 1, .inr (0, [.ref (uh 8), .ref (uh 9), .int 0, .int 0])), (uh 8, .inl (cR, 488, .inr (.inr (.inr (.inr (fun _ => none)))))), (uh 5, .inr (6, [.ref (uh 47), .ref (uh 48), .int 0, .int 0])), (uh 0, .inr (7, [.ref (uh 7), .int 0])), (mm, .inr (11, [.int (nI jn), .ref (um 0), .ref (um 1), .int 0, .int 0, .ref (um 2), .int 0, .int (-1), .int (-1), .int 0, .int 0, .int 0, .int 0, .int 0, .ref (um 3), .ref (um 4), .ref (um 5), .ref (um 6), .ref (um 7), .int 0, .int 0, .int 0, .ref (um 8), .ref (um 9), .ref (um 10), .int 0, .int 0, .ref (um 11), .int 0, .int 0, .ref (um 12), .ref (um 13), .ref (um 14), .ref (um 15), .ref (um 16), .int 0, .ref (um 17), .ref (um 18), .ref (um 19), .ref (um 20), .ref (um 21), .ref (um 22), .int 0, .int 0, .int 0, .ref (um 23), .ref (um 24)]))] H) (hD : va_D A [(hh, .inr (10, [.int (nI jn), .ref (uh 0), .ref (uh 1), .ref (uh 2), .ref (uh 3), .ref (uh 4), .ref (uh 5), .ref (uh 6)])), (uh 1, .inr (0, [.ref (uh 8), .ref (uh 9), .int 0, .int 0])), (uh 8, .inl (cR, 488, .inr (.inr (.inr (.inr (fun _ => none)))))), (uh 5, .inr (6, [.ref (uh 47), .ref (uh 48), .int 0, .int 0])), (uh 0, .inr (7, [.ref (uh 7), .int 0])), (mm, .inr (11, [.int (nI jn), .ref (um 0), .ref (um 1), .int 0, .int 0, .ref (um 2), .int 0, .int (-1), .int (-1), .int 0, .int 0, .int 0, .int 0, .int 0, .ref (um 3), .ref (um 4), .ref (um 5), .ref (um 6), .ref (um 7), .int 0, .int 0, .int 0, .ref (um 8), .ref (um 9), .ref (um 10), .int 0, .int 0, .ref (um 11), .int 0, .int 0, .ref (um 12), .ref (um 13), .ref (um 14), .ref (um 15), .ref (um 16), .int 0, .ref (um 17), .ref (um 18), .ref (um 19), .ref (um 20), .ref (um 21), .ref (um 22), .int 0, .int 0, .int 0, .ref (um 23), .ref (um 24)]))]) (hS : va_S A s.heap H locs) (hl : lv_has ls 4 [(0, .ref b), (1, .ref hh), (2, .ref mm), (3, .int 1)]) : W p l e room_1 s m #[Value.ref b] below meth c H locs 92 95787 (lw_Z below #[Value.ref b] s) (F0 m 924 ls []) := by
  have C0 := C
  obtain ⟨hx, hb, hr, hml, hown, hts, hX, hbl, hlocks, hK, hA, hA2⟩ := C
  have hbA : ¬ A b := fun q => absurd (hA2 b q) (Nat.not_le.mpr hbl)
  refine lv_aload_n hx hb dL_law_924 rfl (lv_at hl 1 rfl) ?_
  refine lv_aload_n hx hb dL_law_925 rfl (lv_at hl 0 rfl) ?_
  refine lv_iload_n hx hb dL_law_926 rfl (lv_at hl 3 rfl) ?_
  refine lv_iconst (v := 1) hx hb dL_law_927 (by decide) ?_
  refine lv_iadd hx hb dL_law_928 ?_
  refine lv_eqi (y := 2) (by decide) ?_
  refine va_sld hx hb hX hbl hbA hS (vp_in_nI (n := 2) (by decide) (by decide)) dL_law_929 ?_
  refine lv_eqi (y := xs 2) rfl ?_
  have hPc := hP.sub (ws' := [(hh, .inr (10, [.int (nI jn), .ref (uh 0), .ref (uh 1), .ref (uh 2), .ref (uh 3), .ref (uh 4), .ref (uh 5), .ref (uh 6)])), (uh 1, .inr (0, [.ref (uh 8), .ref (uh 9), .int 0, .int 0])), (uh 8, .inl (cR, 488, .inr (.inr (.inr (.inr (fun _ => none)))))), (uh 5, .inr (6, [.ref (uh 47), .ref (uh 48), .int 0, .int 0])), (uh 0, .inr (7, [.ref (uh 7), .int 0]))]) [0, 1, 2, 3, 4] rfl
  have hDc := hD.sub (ws' := [(hh, .inr (10, [.int (nI jn), .ref (uh 0), .ref (uh 1), .ref (uh 2), .ref (uh 3), .ref (uh 4), .ref (uh 5), .ref (uh 6)])), (uh 1, .inr (0, [.ref (uh 8), .ref (uh 9), .int 0, .int 0])), (uh 8, .inl (cR, 488, .inr (.inr (.inr (.inr (fun _ => none)))))), (uh 5, .inr (6, [.ref (uh 47), .ref (uh 48), .int 0, .int 0])), (uh 0, .inr (7, [.ref (uh 7), .int 0]))]) [0, 1, 2, 3, 4] (by decide) rfl
  refine ro (va_runV (As := [.int (xs 2)]) (rest := []) ⟨hx, hb, hml, hown, hts⟩ (c_about l D cI cR cM _ (xs 2) hh (.ref (uh 2)) (.ref (uh 3)) (.ref (uh 4)) (.ref (uh 6)) (uh 1) (uh 8) (uh 9) (uh 5) (.ref (uh 47)) (.ref (uh 48)) (.int 0) (uh 0) (uh 7)) (cwV 1 hts gL_law_X10_about rfl rfl rfl (by decide +kernel) ⟨Nat.le_of_ble_eq_true rfl, Nat.le_of_ble_eq_true rfl⟩) (pre_V hK hPc hDc 0 10 rfl rfl) rfl rfl hl.1 rfl (lv_room (Nat.le_of_ble_eq_true rfl)) dL_law_930 ⟨Nat.le_of_ble_eq_true rfl, Nat.le_of_ble_eq_true rfl⟩) hS hA hP (fun H locs hP hS => ?_)
  refine lv_aload_n hx hb dL_law_933 rfl (lv_at hl 2 rfl) ?_
  refine lv_aload_n hx hb dL_law_934 rfl (lv_at hl 0 rfl) ?_
  refine lv_iload_n hx hb dL_law_935 rfl (lv_at hl 3 rfl) ?_
  refine lv_iconst (v := 1) hx hb dL_law_936 (by decide) ?_
  refine lv_iadd hx hb dL_law_937 ?_
  refine lv_eqi (y := 2) (by decide) ?_
  refine va_sld hx hb hX hbl hbA hS (vp_in_nI (n := 2) (by decide) (by decide)) dL_law_938 ?_
  refine lv_eqi (y := xs 2) rfl ?_
  have hPc := hP.sub (ws' := [(mm, .inr (11, [.int (nI jn), .ref (um 0), .ref (um 1), .int 0, .int 0, .ref (um 2), .int 0, .int (-1), .int (-1), .int 0, .int 0, .int 0, .int 0, .int 0, .ref (um 3), .ref (um 4), .ref (um 5), .ref (um 6), .ref (um 7), .int 0, .int 0, .int 0, .ref (um 8), .ref (um 9), .ref (um 10), .int 0, .int 0, .ref (um 11), .int 0, .int 0, .ref (um 12), .ref (um 13), .ref (um 14), .ref (um 15), .ref (um 16), .int 0, .ref (um 17), .ref (um 18), .ref (um 19), .ref (um 20), .ref (um 21), .ref (um 22), .int 0, .int 0, .int 0, .ref (um 23), .ref (um 24)]))]) [5] rfl
  have hDc := hD.sub (ws' := [(mm, .inr (11, [.int (nI jn), .ref (um 0), .ref (um 1), .int 0, .int 0, .ref (um 2), .int 0, .int (-1), .int (-1), .int 0, .int 0, .int 0, .int 0, .int 0, .ref (um 3), .ref (um 4), .ref (um 5), .ref (um 6), .ref (um 7), .int 0, .int 0, .int 0, .ref (um 8), .ref (um 9), .ref (um 10), .int 0, .int 0, .ref (um 11), .int 0, .int 0, .ref (um 12), .ref (um 13), .ref (um 14), .ref (um 15), .ref (um 16), .int 0, .ref (um 17), .ref (um 18), .ref (um 19), .ref (um 20), .ref (um 21), .ref (um 22), .int 0, .int 0, .int 0, .ref (um 23), .ref (um 24)]))]) [5] (by decide) rfl
  refine ro (va_runV (As := [.int (xs 2)]) (rest := [.int (abI jn (xs 2))]) ⟨hx, hb, hml, hown, hts⟩ (c_mabout l D cI cR cM _ (xs 2) mm [.int (nI jn), .ref (um 0), .ref (um 1), .int 0, .int 0, .ref (um 2), .int 0, .int (-1), .int (-1), .int 0, .int 0, .int 0, .int 0, .int 0, .ref (um 3), .ref (um 4), .ref (um 5), .ref (um 6), .ref (um 7), .int 0, .int 0, .int 0, .ref (um 8), .ref (um 9), .ref (um 10), .int 0, .int 0, .ref (um 11), .int 0, .int 0, .ref (um 12), .ref (um 13), .ref (um 14), .ref (um 15), .ref (um 16), .int 0, .ref (um 17), .ref (um 18), .ref (um 19), .ref (um 20), .ref (um 21), .ref (um 22), .int 0, .int 0, .int 0, .ref (um 23), .ref (um 24)] rfl rfl rfl rfl rfl) (cwV 1 hts gL_law_X11_about rfl rfl rfl (by decide +kernel) ⟨Nat.le_of_ble_eq_true rfl, Nat.le_of_ble_eq_true rfl⟩) (pre_V hK hPc hDc 0 11 rfl rfl) rfl rfl hl.1 rfl (lv_room (Nat.le_of_ble_eq_true rfl)) dL_law_939 ⟨Nat.le_of_ble_eq_true rfl, Nat.le_of_ble_eq_true rfl⟩) hS hA hP (fun H locs hP hS => ?_)
  refine lv_icmp_eq (tgt := 947) hx hb dL_law_942 (by decide) (fun c942 => ?_) (fun c942 => absurd (rfl) c942)
  exact law_end C0 _ _ _ hS (lv_sub hl [0, 3] rfl)
