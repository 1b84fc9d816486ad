theorem mX3_init : zMi yX3_init cX3_init 1 0 := ⟨⟨zTb_mem2 78 (by decide +kernel) rfl, zTb_mem2 66 (by decide +kernel) rfl, (by decide +kernel), (by decide)⟩, rfl, zTb_mem2 77 (by decide +kernel) rfl⟩
theorem mX1_init : zMi yX1_init cX1_init 1 0 := ⟨⟨zTb_mem2 86 (by decide +kernel) rfl, zTb_mem2 67 (by decide +kernel) rfl, (by decide +kernel), (by decide)⟩, rfl, zTb_mem2 85 (by decide +kernel) rfl⟩
theorem mX0_init : zMi yX0_init cX0_init 2 0 := ⟨⟨zTb_mem2 92 (by decide +kernel) rfl, zTb_mem2 68 (by decide +kernel) rfl, (by decide +kernel), (by decide)⟩, rfl, zTb_mem2 91 (by decide +kernel) rfl⟩
theorem mX2_init : zMi yX2_init cX2_init 1 0 := ⟨⟨zTb_mem2 137 (by decide +kernel) rfl, zTb_mem2 69 (by decide +kernel) rfl, (by decide +kernel), (by decide)⟩, rfl, zTb_mem2 136 (by decide +kernel) rfl⟩
theorem mX3_sock : zMv yX3_sock cX3_sock 3 (some .int) 1 RX3 := ⟨⟨zTb_mem2 213 (by decide +kernel) rfl, zTb_mem2 66 (by decide +kernel) rfl, (by decide +kernel), (by decide)⟩, zTb_mem2 211 (by decide +kernel) rfl, zTb_mem2 212 (by decide +kernel) rfl⟩
theorem mX3_within : zMs yX3_within cX3_within 2 (some .boolean) 2 := ⟨⟨zTb_mem2 216 (by decide +kernel) rfl, zTb_mem2 66 (by decide +kernel) rfl, (by decide +kernel), (by decide)⟩, zTb_mem2 215 (by decide +kernel) rfl⟩
theorem mX3_refuse : zMv yX3_refuse cX3_refuse 2 (some .int) 1 RX3 := ⟨⟨zTb_mem2 220 (by decide +kernel) rfl, zTb_mem2 66 (by decide +kernel) rfl, (by decide +kernel), (by decide)⟩, zTb_mem2 219 (by decide +kernel) rfl, zTb_mem2 0 (by decide +kernel) rfl⟩
theorem mX0_darns : zMv yX0_darns cX0_darns 1 (some .int) 0 RX0 := ⟨⟨zTb_mem2 224 (by decide +kernel) rfl, zTb_mem2 68 (by decide +kernel) rfl, (by decide +kernel), (by decide)⟩, zTb_mem2 222 (by decide +kernel) rfl, zTb_mem2 223 (by decide +kernel) rfl⟩
theorem mX0_darnsOf : zMv yX0_darnsOf cX0_darnsOf 4 (some .int) 1 RX0 := ⟨⟨zTb_mem2 228 (by decide +kernel) rfl, zTb_mem2 68 (by decide +kernel) rfl, (by decide +kernel), (by decide)⟩, zTb_mem2 226 (by decide +kernel) rfl, zTb_mem2 227 (by decide +kernel) rfl⟩
theorem mX0_many : zMv yX0_many cX0_many 2 (some .int) 1 RX0 := ⟨⟨zTb_mem2 232 (by decide +kernel) rfl, zTb_mem2 68 (by decide +kernel) rfl, (by decide +kernel), (by decide)⟩, zTb_mem2 230 (by decide +kernel) rfl, zTb_mem2 231 (by decide +kernel) rfl⟩
theorem mX1_renew : zMv yX1_renew cX1_renew 2 none 1 RX1 := ⟨⟨zTb_mem2 236 (by decide +kernel) rfl, zTb_mem2 67 (by decide +kernel) rfl, (by decide +kernel), (by decide)⟩, zTb_mem2 234 (by decide +kernel) rfl, zTb_mem2 235 (by decide +kernel) rfl⟩
theorem mX0_renew : zMv yX0_renew cX0_renew 3 none 1 RX0 := ⟨⟨zTb_mem2 240 (by decide +kernel) rfl, zTb_mem2 68 (by decide +kernel) rfl, (by decide +kernel), (by decide)⟩, zTb_mem2 238 (by decide +kernel) rfl, zTb_mem2 239 (by decide +kernel) rfl⟩
theorem mX3_wear : zMv yX3_wear cX3_wear 4 (some .int) 2 RX3 := ⟨⟨zTb_mem2 244 (by decide +kernel) rfl, zTb_mem2 66 (by decide +kernel) rfl, (by decide +kernel), (by decide)⟩, zTb_mem2 242 (by decide +kernel) rfl, zTb_mem2 243 (by decide +kernel) rfl⟩
theorem mX3_wearsAsTold : zMs yX3_wearsAsTold cX3_wearsAsTold 2 (some .boolean) 2 := ⟨⟨zTb_mem2 247 (by decide +kernel) rfl, zTb_mem2 66 (by decide +kernel) rfl, (by decide +kernel), (by decide)⟩, zTb_mem2 246 (by decide +kernel) rfl⟩
theorem mX3_between : zMs yX3_between cX3_between 3 (some .boolean) 3 := ⟨⟨zTb_mem2 250 (by decide +kernel) rfl, zTb_mem2 66 (by decide +kernel) rfl, (by decide +kernel), (by decide)⟩, zTb_mem2 249 (by decide +kernel) rfl⟩
theorem mX3_darn : zMv yX3_darn cX3_darn 6 (some .int) 4 RX3 := ⟨⟨zTb_mem2 254 (by decide +kernel) rfl, zTb_mem2 66 (by decide +kernel) rfl, (by decide +kernel), (by decide)⟩, zTb_mem2 252 (by decide +kernel) rfl, zTb_mem2 253 (by decide +kernel) rfl⟩
theorem mX0_verdict : zMv yX0_verdict cX0_verdict 5 (some .int) 4 RX0 := ⟨⟨zTb_mem2 258 (by decide +kernel) rfl, zTb_mem2 68 (by decide +kernel) rfl, (by decide +kernel), (by decide)⟩, zTb_mem2 256 (by decide +kernel) rfl, zTb_mem2 257 (by decide +kernel) rfl⟩
theorem mX0_hasRoom : zMv yX0_hasRoom cX0_hasRoom 2 (some .boolean) 1 RX0 := ⟨⟨zTb_mem2 264 (by decide +kernel) rfl, zTb_mem2 68 (by decide +kernel) rfl, (by decide +kernel), (by decide)⟩, zTb_mem2 262 (by decide +kernel) rfl, zTb_mem2 263 (by decide +kernel) rfl⟩
theorem mX1_keep : zMv yX1_keep cX1_keep 1 none 0 RX1 := ⟨⟨zTb_mem2 268 (by decide +kernel) rfl, zTb_mem2 67 (by decide +kernel) rfl, (by decide +kernel), (by decide)⟩, zTb_mem2 266 (by decide +kernel) rfl, zTb_mem2 267 (by decide +kernel) rfl⟩
theorem mJ9_min_7cf53 : zMs yJ9_min_7cf53 cJ9_min_7cf53 2 (some .int) 2 := ⟨⟨zTb_mem2 274 (by decide +kernel) rfl, zTb_mem2 72 (by decide +kernel) rfl, (by decide +kernel), (by decide)⟩, zTb_mem2 273 (by decide +kernel) rfl⟩
theorem mX0_put : zMv yX0_put cX0_put 6 (some .int) 4 RX0 := ⟨⟨zTb_mem2 278 (by decide +kernel) rfl, zTb_mem2 68 (by decide +kernel) rfl, (by decide +kernel), (by decide)⟩, zTb_mem2 276 (by decide +kernel) rfl, zTb_mem2 277 (by decide +kernel) rfl⟩
theorem mX3_unpick : zMv yX3_unpick cX3_unpick 2 (some .int) 1 RX3 := ⟨⟨zTb_mem2 283 (by decide +kernel) rfl, zTb_mem2 66 (by decide +kernel) rfl, (by decide +kernel), (by decide)⟩, zTb_mem2 281 (by decide +kernel) rfl, zTb_mem2 282 (by decide +kernel) rfl⟩
theorem mX0_isHole : zMv yX0_isHole cX0_isHole 2 (some .boolean) 1 RX0 := ⟨⟨zTb_mem2 287 (by decide +kernel) rfl, zTb_mem2 68 (by decide +kernel) rfl, (by decide +kernel), (by decide)⟩, zTb_mem2 285 (by decide +kernel) rfl, zTb_mem2 286 (by decide +kernel) rfl⟩
theorem mX0_take : zMv yX0_take cX0_take 2 (some .int) 1 RX0 := ⟨⟨zTb_mem2 291 (by decide +kernel) rfl, zTb_mem2 68 (by decide +kernel) rfl, (by decide +kernel), (by decide)⟩, zTb_mem2 289 (by decide +kernel) rfl, zTb_mem2 290 (by decide +kernel) rfl⟩
theorem mX0_get : zMv yX0_get cX0_get 4 (some .int) 3 RX0 := ⟨⟨zTb_mem2 296 (by decide +kernel) rfl, zTb_mem2 68 (by decide +kernel) rfl, (by decide +kernel), (by decide)⟩, zTb_mem2 294 (by decide +kernel) rfl, zTb_mem2 295 (by decide +kernel) rfl⟩
theorem mX3_years : zMv yX3_years cX3_years 3 (some .int) 1 RX3 := ⟨⟨zTb_mem2 300 (by decide +kernel) rfl, zTb_mem2 66 (by decide +kernel) rfl, (by decide +kernel), (by decide)⟩, zTb_mem2 298 (by decide +kernel) rfl, zTb_mem2 299 (by decide +kernel) rfl⟩
theorem mX0_pass : zMv yX0_pass cX0_pass 2 none 0 RX0 := ⟨⟨zTb_mem2 304 (by decide +kernel) rfl, zTb_mem2 68 (by decide +kernel) rfl, (by decide +kernel), (by decide)⟩, zTb_mem2 302 (by decide +kernel) rfl, zTb_mem2 303 (by decide +kernel) rfl⟩
theorem mX0_wearTop : zMv yX0_wearTop cX0_wearTop 4 none 1 RX0 := ⟨⟨zTb_mem2 308 (by decide +kernel) rfl, zTb_mem2 68 (by decide +kernel) rfl, (by decide +kernel), (by decide)⟩, zTb_mem2 307 (by decide +kernel) rfl, zTb_mem2 1 (by decide +kernel) rfl⟩
theorem mX0_threadAt : zMv yX0_threadAt cX0_threadAt 3 (some .int) 2 RX0 := ⟨⟨zTb_mem2 312 (by decide +kernel) rfl, zTb_mem2 68 (by decide +kernel) rfl, (by decide +kernel), (by decide)⟩, zTb_mem2 310 (by decide +kernel) rfl, zTb_mem2 311 (by decide +kernel) rfl⟩
theorem mX3_loss : zMs yX3_loss cX3_loss 3 (some .int) 3 := ⟨⟨zTb_mem2 315 (by decide +kernel) rfl, zTb_mem2 66 (by decide +kernel) rfl, (by decide +kernel), (by decide)⟩, zTb_mem2 314 (by decide +kernel) rfl⟩
theorem mX0_holeBits : zMv yX0_holeBits cX0_holeBits 3 (some .int) 0 RX0 := ⟨⟨zTb_mem2 319 (by decide +kernel) rfl, zTb_mem2 68 (by decide +kernel) rfl, (by decide +kernel), (by decide)⟩, zTb_mem2 317 (by decide +kernel) rfl, zTb_mem2 318 (by decide +kernel) rfl⟩
theorem mJ6_bitCount_0f7a4 : zMs yJ6_bitCount_0f7a4 cJ6_bitCount_0f7a4 1 (some .int) 1 := ⟨⟨zTb_mem2 322 (by decide +kernel) rfl, zTb_mem2 73 (by decide +kernel) rfl, (by decide +kernel), (by decide)⟩, zTb_mem2 321 (by decide +kernel) rfl⟩
theorem mX3_undo : zMv yX3_undo cX3_undo 1 (some .int) 0 RX3 := ⟨⟨zTb_mem2 329 (by decide +kernel) rfl, zTb_mem2 66 (by decide +kernel) rfl, (by decide +kernel), (by decide)⟩, zTb_mem2 327 (by decide +kernel) rfl, zTb_mem2 328 (by decide +kernel) rfl⟩
theorem mX1_bringBack : zMv yX1_bringBack cX1_bringBack 1 none 0 RX1 := ⟨⟨zTb_mem2 333 (by decide +kernel) rfl, zTb_mem2 67 (by decide +kernel) rfl, (by decide +kernel), (by decide)⟩, zTb_mem2 331 (by decide +kernel) rfl, zTb_mem2 332 (by decide +kernel) rfl⟩
theorem mX3_type : zMv yX3_type cX3_type 2 (some .int) 1 RX3 := ⟨⟨zTb_mem2 337 (by decide +kernel) rfl, zTb_mem2 66 (by decide +kernel) rfl, (by decide +kernel), (by decide)⟩, zTb_mem2 335 (by decide +kernel) rfl, zTb_mem2 336 (by decide +kernel) rfl⟩
theorem mX3_clear : zMv yX3_clear cX3_clear 2 (some .int) 0 RX3 := ⟨⟨zTb_mem2 341 (by decide +kernel) rfl, zTb_mem2 66 (by decide +kernel) rfl, (by decide +kernel), (by decide)⟩, zTb_mem2 339 (by decide +kernel) rfl, zTb_mem2 340 (by decide +kernel) rfl⟩
theorem mX3_read : zMv yX3_read cX3_read 3 (some .int) 0 RX3 := ⟨⟨zTb_mem2 345 (by decide +kernel) rfl, zTb_mem2 66 (by decide +kernel) rfl, (by decide +kernel), (by decide)⟩, zTb_mem2 343 (by decide +kernel) rfl, zTb_mem2 344 (by decide +kernel) rfl⟩
theorem mX2_fault : zMv yX2_fault cX2_fault 2 (some .int) 0 RX2 := ⟨⟨zTb_mem2 349 (by decide +kernel) rfl, zTb_mem2 69 (by decide +kernel) rfl, (by decide +kernel), (by decide)⟩, zTb_mem2 347 (by decide +kernel) rfl, zTb_mem2 348 (by decide +kernel) rfl⟩
theorem mX2_step : zMv yX2_step cX2_step 1 none 0 RX2 := ⟨⟨zTb_mem2 353 (by decide +kernel) rfl, zTb_mem2 69 (by decide +kernel) rfl, (by decide +kernel), (by decide)⟩, zTb_mem2 352 (by decide +kernel) rfl, zTb_mem2 2 (by decide +kernel) rfl⟩
theorem mX2_isLetter : zMs yX2_isLetter cX2_isLetter 1 (some .boolean) 1 := ⟨⟨zTb_mem2 356 (by decide +kernel) rfl, zTb_mem2 69 (by decide +kernel) rfl, (by decide +kernel), (by decide)⟩, zTb_mem2 355 (by decide +kernel) rfl⟩
theorem mX2_takeWord : zMv yX2_takeWord cX2_takeWord 2 none 0 RX2 := ⟨⟨zTb_mem2 361 (by decide +kernel) rfl, zTb_mem2 69 (by decide +kernel) rfl, (by decide +kernel), (by decide)⟩, zTb_mem2 360 (by decide +kernel) rfl, zTb_mem2 3 (by decide +kernel) rfl⟩
theorem mX2_spells : zMv yX2_spells cX2_spells 3 (some .boolean) 1 RX2 := ⟨⟨zTb_mem2 365 (by decide +kernel) rfl, zTb_mem2 69 (by decide +kernel) rfl, (by decide +kernel), (by decide)⟩, zTb_mem2 364 (by decide +kernel) rfl, zTb_mem2 4 (by decide +kernel) rfl⟩
theorem mX2_isFigure : zMs yX2_isFigure cX2_isFigure 1 (some .boolean) 1 := ⟨⟨zTb_mem2 371 (by decide +kernel) rfl, zTb_mem2 69 (by decide +kernel) rfl, (by decide +kernel), (by decide)⟩, zTb_mem2 370 (by decide +kernel) rfl⟩
theorem mX2_takeNumber : zMv yX2_takeNumber cX2_takeNumber 1 none 0 RX2 := ⟨⟨zTb_mem2 375 (by decide +kernel) rfl, zTb_mem2 69 (by decide +kernel) rfl, (by decide +kernel), (by decide)⟩, zTb_mem2 374 (by decide +kernel) rfl, zTb_mem2 5 (by decide +kernel) rfl⟩
theorem mX2_takeItem : zMv yX2_takeItem cX2_takeItem 3 (some .boolean) 0 RX2 := ⟨⟨zTb_mem2 379 (by decide +kernel) rfl, zTb_mem2 69 (by decide +kernel) rfl, (by decide +kernel), (by decide)⟩, zTb_mem2 378 (by decide +kernel) rfl, zTb_mem2 6 (by decide +kernel) rfl⟩
theorem mX2_refusedOn : zMv yX2_refusedOn cX2_refusedOn 3 (some .int) 1 RX2 := ⟨⟨zTb_mem2 385 (by decide +kernel) rfl, zTb_mem2 69 (by decide +kernel) rfl, (by decide +kernel), (by decide)⟩, zTb_mem2 383 (by decide +kernel) rfl, zTb_mem2 384 (by decide +kernel) rfl⟩
theorem mX2_isToldTo : zMv yX2_isToldTo cX2_isToldTo 6 (some .boolean) 2 RX2 := ⟨⟨zTb_mem2 389 (by decide +kernel) rfl, zTb_mem2 69 (by decide +kernel) rfl, (by decide +kernel), (by decide)⟩, zTb_mem2 388 (by decide +kernel) rfl, zTb_mem2 7 (by decide +kernel) rfl⟩
theorem mX0_copy : zMv yX0_copy cX0_copy 2 none 1 RX0 := ⟨⟨zTb_mem2 397 (by decide +kernel) rfl, zTb_mem2 68 (by decide +kernel) rfl, (by decide +kernel), (by decide)⟩, zTb_mem2 395 (by decide +kernel) rfl, zTb_mem2 396 (by decide +kernel) rfl⟩
theorem mX3_of : zMv yX3_of cX3_of 4 (some .int) 3 RX3 := ⟨⟨zTb_mem2 402 (by decide +kernel) rfl, zTb_mem2 66 (by decide +kernel) rfl, (by decide +kernel), (by decide)⟩, zTb_mem2 400 (by decide +kernel) rfl, zTb_mem2 401 (by decide +kernel) rfl⟩
theorem mX0_counts : zMv yX0_counts cX0_counts 5 (some .int) 2 RX0 := ⟨⟨zTb_mem2 407 (by decide +kernel) rfl, zTb_mem2 68 (by decide +kernel) rfl, (by decide +kernel), (by decide)⟩, zTb_mem2 405 (by decide +kernel) rfl, zTb_mem2 406 (by decide +kernel) rfl⟩
theorem mX0_countsOver : zMv yX0_countsOver cX0_countsOver 5 (some .int) 3 RX0 := ⟨⟨zTb_mem2 411 (by decide +kernel) rfl, zTb_mem2 68 (by decide +kernel) rfl, (by decide +kernel), (by decide)⟩, zTb_mem2 410 (by decide +kernel) rfl, zTb_mem2 8 (by decide +kernel) rfl⟩
theorem mX0_year : zMv yX0_year cX0_year 1 (some .int) 0 RX0 := ⟨⟨zTb_mem2 416 (by decide +kernel) rfl, zTb_mem2 68 (by decide +kernel) rfl, (by decide +kernel), (by decide)⟩, zTb_mem2 414 (by decide +kernel) rfl, zTb_mem2 415 (by decide +kernel) rfl⟩
theorem mX3_cell : zMv yX3_cell cX3_cell 3 (some .int) 2 RX3 := ⟨⟨zTb_mem2 421 (by decide +kernel) rfl, zTb_mem2 66 (by decide +kernel) rfl, (by decide +kernel), (by decide)⟩, zTb_mem2 419 (by decide +kernel) rfl, zTb_mem2 420 (by decide +kernel) rfl⟩
theorem mX3_claims : zMv yX3_claims cX3_claims 3 (some .int) 2 RX3 := ⟨⟨zTb_mem2 425 (by decide +kernel) rfl, zTb_mem2 66 (by decide +kernel) rfl, (by decide +kernel), (by decide)⟩, zTb_mem2 423 (by decide +kernel) rfl, zTb_mem2 424 (by decide +kernel) rfl⟩
theorem mX0_claimOf : zMv yX0_claimOf cX0_claimOf 3 (some .int) 2 RX0 := ⟨⟨zTb_mem2 429 (by decide +kernel) rfl, zTb_mem2 68 (by decide +kernel) rfl, (by decide +kernel), (by decide)⟩, zTb_mem2 427 (by decide +kernel) rfl, zTb_mem2 428 (by decide +kernel) rfl⟩
theorem mX0_weigh : zMv yX0_weigh cX0_weigh 3 none 1 RX0 := ⟨⟨zTb_mem2 433 (by decide +kernel) rfl, zTb_mem2 68 (by decide +kernel) rfl, (by decide +kernel), (by decide)⟩, zTb_mem2 431 (by decide +kernel) rfl, zTb_mem2 432 (by decide +kernel) rfl⟩
theorem mX0_weighThread : zMv yX0_weighThread cX0_weighThread 4 none 0 RX0 := ⟨⟨zTb_mem2 437 (by decide +kernel) rfl, zTb_mem2 68 (by decide +kernel) rfl, (by decide +kernel), (by decide)⟩, zTb_mem2 436 (by decide +kernel) rfl, zTb_mem2 9 (by decide +kernel) rfl⟩
theorem mX0_addClaim : zMv yX0_addClaim cX0_addClaim 3 none 2 RX0 := ⟨⟨zTb_mem2 441 (by decide +kernel) rfl, zTb_mem2 68 (by decide +kernel) rfl, (by decide +kernel), (by decide)⟩, zTb_mem2 440 (by decide +kernel) rfl, zTb_mem2 10 (by decide +kernel) rfl⟩
theorem mX0_topFamily : zMv yX0_topFamily cX0_topFamily 3 (some .int) 1 RX0 := ⟨⟨zTb_mem2 445 (by decide +kernel) rfl, zTb_mem2 68 (by decide +kernel) rfl, (by decide +kernel), (by decide)⟩, zTb_mem2 444 (by decide +kernel) rfl, zTb_mem2 11 (by decide +kernel) rfl⟩
theorem mX0_lineFamily : zMv yX0_lineFamily cX0_lineFamily 5 (some .int) 1 RX0 := ⟨⟨zTb_mem2 449 (by decide +kernel) rfl, zTb_mem2 68 (by decide +kernel) rfl, (by decide +kernel), (by decide)⟩, zTb_mem2 448 (by decide +kernel) rfl, zTb_mem2 12 (by decide +kernel) rfl⟩
theorem mX0_weighAges : zMv yX0_weighAges cX0_weighAges 5 none 0 RX0 := ⟨⟨zTb_mem2 455 (by decide +kernel) rfl, zTb_mem2 68 (by decide +kernel) rfl, (by decide +kernel), (by decide)⟩, zTb_mem2 454 (by decide +kernel) rfl, zTb_mem2 13 (by decide +kernel) rfl⟩
theorem mJ9_max_7cf53 : zMs yJ9_max_7cf53 cJ9_max_7cf53 2 (some .int) 2 := ⟨⟨zTb_mem2 458 (by decide +kernel) rfl, zTb_mem2 72 (by decide +kernel) rfl, (by decide +kernel), (by decide)⟩, zTb_mem2 457 (by decide +kernel) rfl⟩
theorem mX3_owner : zMv yX3_owner cX3_owner 3 (some .int) 2 RX3 := ⟨⟨zTb_mem2 462 (by decide +kernel) rfl, zTb_mem2 66 (by decide +kernel) rfl, (by decide +kernel), (by decide)⟩, zTb_mem2 460 (by decide +kernel) rfl, zTb_mem2 461 (by decide +kernel) rfl⟩
theorem mX3_tryYears : zMv yX3_tryYears cX3_tryYears 3 none 1 RX3 := ⟨⟨zTb_mem2 466 (by decide +kernel) rfl, zTb_mem2 66 (by decide +kernel) rfl, (by decide +kernel), (by decide)⟩, zTb_mem2 465 (by decide +kernel) rfl, zTb_mem2 14 (by decide +kernel) rfl⟩
theorem mX0_ownerBy : zMv yX0_ownerBy cX0_ownerBy 5 (some .int) 1 RX0 := ⟨⟨zTb_mem2 470 (by decide +kernel) rfl, zTb_mem2 68 (by decide +kernel) rfl, (by decide +kernel), (by decide)⟩, zTb_mem2 468 (by decide +kernel) rfl, zTb_mem2 469 (by decide +kernel) rfl⟩
theorem mX3_laws : zMv yX3_laws cX3_laws 4 (some .int) 1 RX3 := ⟨⟨zTb_mem2 474 (by decide +kernel) rfl, zTb_mem2 66 (by decide +kernel) rfl, (by decide +kernel), (by decide)⟩, zTb_mem2 472 (by decide +kernel) rfl, zTb_mem2 473 (by decide +kernel) rfl⟩
theorem mX3_share : zMv yX3_share cX3_share 2 (some .int) 1 RX3 := ⟨⟨zTb_mem2 478 (by decide +kernel) rfl, zTb_mem2 66 (by decide +kernel) rfl, (by decide +kernel), (by decide)⟩, zTb_mem2 476 (by decide +kernel) rfl, zTb_mem2 477 (by decide +kernel) rfl⟩
theorem mX0_allClaims : zMv yX0_allClaims cX0_allClaims 4 (some .int) 1 RX0 := ⟨⟨zTb_mem2 482 (by decide +kernel) rfl, zTb_mem2 68 (by decide +kernel) rfl, (by decide +kernel), (by decide)⟩, zTb_mem2 480 (by decide +kernel) rfl, zTb_mem2 481 (by decide +kernel) rfl⟩
theorem mX3_setFraction : zMv yX3_setFraction cX3_setFraction 7 none 2 RX3 := ⟨⟨zTb_mem2 486 (by decide +kernel) rfl, zTb_mem2 66 (by decide +kernel) rfl, (by decide +kernel), (by decide)⟩, zTb_mem2 485 (by decide +kernel) rfl, zTb_mem2 15 (by decide +kernel) rfl⟩
theorem mX3_commonDivisor : zMs yX3_commonDivisor cX3_commonDivisor 7 (some .long) 2 := ⟨⟨zTb_mem2 489 (by decide +kernel) rfl, zTb_mem2 66 (by decide +kernel) rfl, (by decide +kernel), (by decide)⟩, zTb_mem2 488 (by decide +kernel) rfl⟩
theorem mX3_twos : zMv yX3_twos cX3_twos 3 (some .int) 1 RX3 := ⟨⟨zTb_mem2 493 (by decide +kernel) rfl, zTb_mem2 66 (by decide +kernel) rfl, (by decide +kernel), (by decide)⟩, zTb_mem2 491 (by decide +kernel) rfl, zTb_mem2 492 (by decide +kernel) rfl⟩
theorem mX0_isTwos : zMv yX0_isTwos cX0_isTwos 2 (some .boolean) 1 RX0 := ⟨⟨zTb_mem2 497 (by decide +kernel) rfl, zTb_mem2 68 (by decide +kernel) rfl, (by decide +kernel), (by decide)⟩, zTb_mem2 495 (by decide +kernel) rfl, zTb_mem2 496 (by decide +kernel) rfl⟩
theorem mX3_whole : zMv yX3_whole cX3_whole 1 (some .int) 0 RX3 := ⟨⟨zTb_mem2 503 (by decide +kernel) rfl, zTb_mem2 66 (by decide +kernel) rfl, (by decide +kernel), (by decide)⟩, zTb_mem2 501 (by decide +kernel) rfl, zTb_mem2 502 (by decide +kernel) rfl⟩
theorem mX3_findSpans : zMv yX3_findSpans cX3_findSpans 2 none 0 RX3 := ⟨⟨zTb_mem2 507 (by decide +kernel) rfl, zTb_mem2 66 (by decide +kernel) rfl, (by decide +kernel), (by decide)⟩, zTb_mem2 506 (by decide +kernel) rfl, zTb_mem2 16 (by decide +kernel) rfl⟩
theorem mX0_span : zMv yX0_span cX0_span 8 (some .int) 3 RX0 := ⟨⟨zTb_mem2 511 (by decide +kernel) rfl, zTb_mem2 68 (by decide +kernel) rfl, (by decide +kernel), (by decide)⟩, zTb_mem2 509 (by decide +kernel) rfl, zTb_mem2 510 (by decide +kernel) rfl⟩
theorem mX3_leastSpanBut : zMv yX3_leastSpanBut cX3_leastSpanBut 5 (some .int) 2 RX3 := ⟨⟨zTb_mem2 515 (by decide +kernel) rfl, zTb_mem2 66 (by decide +kernel) rfl, (by decide +kernel), (by decide)⟩, zTb_mem2 514 (by decide +kernel) rfl, zTb_mem2 17 (by decide +kernel) rfl⟩
theorem mX3_holes : zMv yX3_holes cX3_holes 2 (some .int) 1 RX3 := ⟨⟨zTb_mem2 520 (by decide +kernel) rfl, zTb_mem2 66 (by decide +kernel) rfl, (by decide +kernel), (by decide)⟩, zTb_mem2 518 (by decide +kernel) rfl, zTb_mem2 519 (by decide +kernel) rfl⟩
theorem mX3_best : zMv yX3_best cX3_best 8 (some .int) 3 RX3 := ⟨⟨zTb_mem2 524 (by decide +kernel) rfl, zTb_mem2 66 (by decide +kernel) rfl, (by decide +kernel), (by decide)⟩, zTb_mem2 522 (by decide +kernel) rfl, zTb_mem2 523 (by decide +kernel) rfl⟩
theorem mX3_split : zMv yX3_split cX3_split 12 (some .int) 3 RX3 := ⟨⟨zTb_mem2 529 (by decide +kernel) rfl, zTb_mem2 66 (by decide +kernel) rfl, (by decide +kernel), (by decide)⟩, zTb_mem2 527 (by decide +kernel) rfl, zTb_mem2 528 (by decide +kernel) rfl⟩
theorem mX3_findSplitSpans : zMv yX3_findSplitSpans cX3_findSplitSpans 5 none 2 RX3 := ⟨⟨zTb_mem2 533 (by decide +kernel) rfl, zTb_mem2 66 (by decide +kernel) rfl, (by decide +kernel), (by decide)⟩, zTb_mem2 532 (by decide +kernel) rfl, zTb_mem2 18 (by decide +kernel) rfl⟩
theorem mX3_bestSplit : zMv yX3_bestSplit cX3_bestSplit 7 (some .int) 4 RX3 := ⟨⟨zTb_mem2 537 (by decide +kernel) rfl, zTb_mem2 66 (by decide +kernel) rfl, (by decide +kernel), (by decide)⟩, zTb_mem2 536 (by decide +kernel) rfl, zTb_mem2 19 (by decide +kernel) rfl⟩
theorem mX3_splitSpan : zMv yX3_splitSpan cX3_splitSpan 7 (some .int) 5 RX3 := ⟨⟨zTb_mem2 541 (by decide +kernel) rfl, zTb_mem2 66 (by decide +kernel) rfl, (by decide +kernel), (by decide)⟩, zTb_mem2 540 (by decide +kernel) rfl, zTb_mem2 20 (by decide +kernel) rfl⟩
theorem mX3_reading : zMv yX3_reading cX3_reading 4 (some .int) 3 RX3 := ⟨⟨zTb_mem2 545 (by decide +kernel) rfl, zTb_mem2 66 (by decide +kernel) rfl, (by decide +kernel), (by decide)⟩, zTb_mem2 543 (by decide +kernel) rfl, zTb_mem2 544 (by decide +kernel) rfl⟩
theorem mX1_addReading : zMv yX1_addReading cX1_addReading 4 (some .int) 3 RX1 := ⟨⟨zTb_mem2 549 (by decide +kernel) rfl, zTb_mem2 67 (by decide +kernel) rfl, (by decide +kernel), (by decide)⟩, zTb_mem2 547 (by decide +kernel) rfl, zTb_mem2 548 (by decide +kernel) rfl⟩
theorem mX3_forget : zMv yX3_forget cX3_forget 2 (some .int) 0 RX3 := ⟨⟨zTb_mem2 553 (by decide +kernel) rfl, zTb_mem2 66 (by decide +kernel) rfl, (by decide +kernel), (by decide)⟩, zTb_mem2 551 (by decide +kernel) rfl, zTb_mem2 552 (by decide +kernel) rfl⟩
theorem mX3_may : zMv yX3_may cX3_may 2 (some .int) 1 RX3 := ⟨⟨zTb_mem2 557 (by decide +kernel) rfl, zTb_mem2 66 (by decide +kernel) rfl, (by decide +kernel), (by decide)⟩, zTb_mem2 555 (by decide +kernel) rfl, zTb_mem2 556 (by decide +kernel) rfl⟩
theorem mX1_possibleKinds : zMv yX1_possibleKinds cX1_possibleKinds 4 (some .int) 1 RX1 := ⟨⟨zTb_mem2 561 (by decide +kernel) rfl, zTb_mem2 67 (by decide +kernel) rfl, (by decide +kernel), (by decide)⟩, zTb_mem2 559 (by decide +kernel) rfl, zTb_mem2 560 (by decide +kernel) rfl⟩
theorem mX1_agrees : zMv yX1_agrees cX1_agrees 4 (some .boolean) 2 RX1 := ⟨⟨zTb_mem2 566 (by decide +kernel) rfl, zTb_mem2 67 (by decide +kernel) rfl, (by decide +kernel), (by decide)⟩, zTb_mem2 565 (by decide +kernel) rfl, zTb_mem2 21 (by decide +kernel) rfl⟩
theorem mX0_leftOf : zMv yX0_leftOf cX0_leftOf 6 (some .int) 3 RX0 := ⟨⟨zTb_mem2 570 (by decide +kernel) rfl, zTb_mem2 68 (by decide +kernel) rfl, (by decide +kernel), (by decide)⟩, zTb_mem2 568 (by decide +kernel) rfl, zTb_mem2 569 (by decide +kernel) rfl⟩
theorem mX3_look : zMv yX3_look cX3_look 7 (some .int) 1 RX3 := ⟨⟨zTb_mem2 574 (by decide +kernel) rfl, zTb_mem2 66 (by decide +kernel) rfl, (by decide +kernel), (by decide)⟩, zTb_mem2 572 (by decide +kernel) rfl, zTb_mem2 573 (by decide +kernel) rfl⟩
theorem mX3_mostAlike : zMv yX3_mostAlike cX3_mostAlike 8 (some .int) 3 RX3 := ⟨⟨zTb_mem2 578 (by decide +kernel) rfl, zTb_mem2 66 (by decide +kernel) rfl, (by decide +kernel), (by decide)⟩, zTb_mem2 577 (by decide +kernel) rfl, zTb_mem2 22 (by decide +kernel) rfl⟩
theorem mX3_orders : zMv yX3_orders cX3_orders 4 (some .int) 2 RX3 := ⟨⟨zTb_mem2 584 (by decide +kernel) rfl, zTb_mem2 66 (by decide +kernel) rfl, (by decide +kernel), (by decide)⟩, zTb_mem2 582 (by decide +kernel) rfl, zTb_mem2 583 (by decide +kernel) rfl⟩
theorem mX3_findFirstOrder : zMv yX3_findFirstOrder cX3_findFirstOrder 8 none 2 RX3 := ⟨⟨zTb_mem2 589 (by decide +kernel) rfl, zTb_mem2 66 (by decide +kernel) rfl, (by decide +kernel), (by decide)⟩, zTb_mem2 588 (by decide +kernel) rfl, zTb_mem2 23 (by decide +kernel) rfl⟩
theorem mX0_nextYear : zMv yX0_nextYear cX0_nextYear 7 (some .int) 2 RX0 := ⟨⟨zTb_mem2 593 (by decide +kernel) rfl, zTb_mem2 68 (by decide +kernel) rfl, (by decide +kernel), (by decide)⟩, zTb_mem2 591 (by decide +kernel) rfl, zTb_mem2 592 (by decide +kernel) rfl⟩
theorem mX3_waysToOrder : zMv yX3_waysToOrder cX3_waysToOrder 8 (some .int) 1 RX3 := ⟨⟨zTb_mem2 597 (by decide +kernel) rfl, zTb_mem2 66 (by decide +kernel) rfl, (by decide +kernel), (by decide)⟩, zTb_mem2 596 (by decide +kernel) rfl, zTb_mem2 24 (by decide +kernel) rfl⟩
theorem mX3_yearOrdered : zMv yX3_yearOrdered cX3_yearOrdered 2 (some .int) 1 RX3 := ⟨⟨zTb_mem2 601 (by decide +kernel) rfl, zTb_mem2 66 (by decide +kernel) rfl, (by decide +kernel), (by decide)⟩, zTb_mem2 600 (by decide +kernel) rfl, zTb_mem2 25 (by decide +kernel) rfl⟩
theorem mX3_odds : zMv yX3_odds cX3_odds 4 (some .int) 3 RX3 := ⟨⟨zTb_mem2 605 (by decide +kernel) rfl, zTb_mem2 66 (by decide +kernel) rfl, (by decide +kernel), (by decide)⟩, zTb_mem2 603 (by decide +kernel) rfl, zTb_mem2 604 (by decide +kernel) rfl⟩
theorem mX0_holeWays : zMv yX0_holeWays cX0_holeWays 5 (some .long) 3 RX0 := ⟨⟨zTb_mem2 609 (by decide +kernel) rfl, zTb_mem2 68 (by decide +kernel) rfl, (by decide +kernel), (by decide)⟩, zTb_mem2 607 (by decide +kernel) rfl, zTb_mem2 608 (by decide +kernel) rfl⟩
theorem mX0_waysFrom : zMv yX0_waysFrom cX0_waysFrom 12 (some .long) 6 RX0 := ⟨⟨zTb_mem2 613 (by decide +kernel) rfl, zTb_mem2 68 (by decide +kernel) rfl, (by decide +kernel), (by decide)⟩, zTb_mem2 612 (by decide +kernel) rfl, zTb_mem2 26 (by decide +kernel) rfl⟩
theorem mX3_powerOfTen : zMs yX3_powerOfTen cX3_powerOfTen 4 (some .long) 1 := ⟨⟨zTb_mem2 616 (by decide +kernel) rfl, zTb_mem2 66 (by decide +kernel) rfl, (by decide +kernel), (by decide)⟩, zTb_mem2 615 (by decide +kernel) rfl⟩
theorem mX3_drawn : zMv yX3_drawn cX3_drawn 7 (some .int) 2 RX3 := ⟨⟨zTb_mem2 622 (by decide +kernel) rfl, zTb_mem2 66 (by decide +kernel) rfl, (by decide +kernel), (by decide)⟩, zTb_mem2 620 (by decide +kernel) rfl, zTb_mem2 621 (by decide +kernel) rfl⟩
theorem mX3_part : zMv yX3_part cX3_part 2 (some .long) 1 RX3 := ⟨⟨zTb_mem2 632 (by decide +kernel) rfl, zTb_mem2 66 (by decide +kernel) rfl, (by decide +kernel), (by decide)⟩, zTb_mem2 630 (by decide +kernel) rfl, zTb_mem2 631 (by decide +kernel) rfl⟩
theorem mX3_image : zMv yX3_image cX3_image 3 (some .int) 1 RX3 := ⟨⟨zTb_mem2 636 (by decide +kernel) rfl, zTb_mem2 66 (by decide +kernel) rfl, (by decide +kernel), (by decide)⟩, zTb_mem2 634 (by decide +kernel) rfl, zTb_mem2 635 (by decide +kernel) rfl⟩
theorem mX1_copy : zMv yX1_copy cX1_copy 2 none 1 RX1 := ⟨⟨zTb_mem2 640 (by decide +kernel) rfl, zTb_mem2 67 (by decide +kernel) rfl, (by decide +kernel), (by decide)⟩, zTb_mem2 638 (by decide +kernel) rfl, zTb_mem2 639 (by decide +kernel) rfl⟩
theorem mX3_from : zMv yX3_from cX3_from 3 (some .int) 1 RX3 := ⟨⟨zTb_mem2 645 (by decide +kernel) rfl, zTb_mem2 66 (by decide +kernel) rfl, (by decide +kernel), (by decide)⟩, zTb_mem2 643 (by decide +kernel) rfl, zTb_mem2 644 (by decide +kernel) rfl⟩
theorem mX3_status : zMv yX3_status cX3_status 2 (some .int) 1 RX3 := ⟨⟨zTb_mem2 649 (by decide +kernel) rfl, zTb_mem2 66 (by decide +kernel) rfl, (by decide +kernel), (by decide)⟩, zTb_mem2 647 (by decide +kernel) rfl, zTb_mem2 648 (by decide +kernel) rfl⟩
theorem mX3_count : zMv yX3_count cX3_count 2 (some .int) 1 RX3 := ⟨⟨zTb_mem2 653 (by decide +kernel) rfl, zTb_mem2 66 (by decide +kernel) rfl, (by decide +kernel), (by decide)⟩, zTb_mem2 651 (by decide +kernel) rfl, zTb_mem2 652 (by decide +kernel) rfl⟩
theorem mX3_howMany : zMv yX3_howMany cX3_howMany 2 (some .int) 1 RX3 := ⟨⟨zTb_mem2 657 (by decide +kernel) rfl, zTb_mem2 66 (by decide +kernel) rfl, (by decide +kernel), (by decide)⟩, zTb_mem2 656 (by decide +kernel) rfl, zTb_mem2 27 (by decide +kernel) rfl⟩
theorem mX3_digest : zMv yX3_digest cX3_digest 4 (some .long) 0 RX3 := ⟨⟨zTb_mem2 661 (by decide +kernel) rfl, zTb_mem2 66 (by decide +kernel) rfl, (by decide +kernel), (by decide)⟩, zTb_mem2 659 (by decide +kernel) rfl, zTb_mem2 660 (by decide +kernel) rfl⟩
theorem mX0_digested : zMv yX0_digested cX0_digested 6 (some .long) 1 RX0 := ⟨⟨zTb_mem2 667 (by decide +kernel) rfl, zTb_mem2 68 (by decide +kernel) rfl, (by decide +kernel), (by decide)⟩, zTb_mem2 665 (by decide +kernel) rfl, zTb_mem2 666 (by decide +kernel) rfl⟩
theorem mX1_digestedReadings : zMv yX1_digestedReadings cX1_digestedReadings 4 (some .long) 1 RX1 := ⟨⟨zTb_mem2 672 (by decide +kernel) rfl, zTb_mem2 67 (by decide +kernel) rfl, (by decide +kernel), (by decide)⟩, zTb_mem2 670 (by decide +kernel) rfl, zTb_mem2 671 (by decide +kernel) rfl⟩
theorem mX4_init : zMi yX4_init cX4_init 1 0 := ⟨⟨zTb_mem2 678 (by decide +kernel) rfl, zTb_mem2 70 (by decide +kernel) rfl, (by decide +kernel), (by decide)⟩, rfl, zTb_mem2 677 (by decide +kernel) rfl⟩
theorem mX4_begins : zMv yX4_begins cX4_begins 4 none 2 RX4 := ⟨⟨zTb_mem2 683 (by decide +kernel) rfl, zTb_mem2 70 (by decide +kernel) rfl, (by decide +kernel), (by decide)⟩, zTb_mem2 682 (by decide +kernel) rfl, zTb_mem2 28 (by decide +kernel) rfl⟩
theorem mX4_sock : zMv yX4_sock cX4_sock 3 (some .int) 1 RX4 := ⟨⟨zTb_mem2 743 (by decide +kernel) rfl, zTb_mem2 70 (by decide +kernel) rfl, (by decide +kernel), (by decide)⟩, zTb_mem2 741 (by decide +kernel) rfl, zTb_mem2 742 (by decide +kernel) rfl⟩
theorem mX4_in : zMs yX4_in cX4_in 6 (some .boolean) 3 := ⟨⟨zTb_mem2 747 (by decide +kernel) rfl, zTb_mem2 70 (by decide +kernel) rfl, (by decide +kernel), (by decide)⟩, zTb_mem2 746 (by decide +kernel) rfl⟩
theorem mX4_bad : zMv yX4_bad cX4_bad 1 (some .int) 0 RX4 := ⟨⟨zTb_mem2 751 (by decide +kernel) rfl, zTb_mem2 70 (by decide +kernel) rfl, (by decide +kernel), (by decide)⟩, zTb_mem2 750 (by decide +kernel) rfl, zTb_mem2 29 (by decide +kernel) rfl⟩
theorem mX4_darnsIn : zMv yX4_darnsIn cX4_darnsIn 4 (some .int) 1 RX4 := ⟨⟨zTb_mem2 755 (by decide +kernel) rfl, zTb_mem2 70 (by decide +kernel) rfl, (by decide +kernel), (by decide)⟩, zTb_mem2 754 (by decide +kernel) rfl, zTb_mem2 30 (by decide +kernel) rfl⟩
theorem mX4_wear : zMv yX4_wear cX4_wear 4 (some .int) 2 RX4 := ⟨⟨zTb_mem2 759 (by decide +kernel) rfl, zTb_mem2 70 (by decide +kernel) rfl, (by decide +kernel), (by decide)⟩, zTb_mem2 757 (by decide +kernel) rfl, zTb_mem2 758 (by decide +kernel) rfl⟩
theorem mX4_isCell : zMs yX4_isCell cX4_isCell 1 (some .boolean) 1 := ⟨⟨zTb_mem2 762 (by decide +kernel) rfl, zTb_mem2 70 (by decide +kernel) rfl, (by decide +kernel), (by decide)⟩, zTb_mem2 761 (by decide +kernel) rfl⟩
theorem mX4_darn : zMv yX4_darn cX4_darn 5 (some .int) 4 RX4 := ⟨⟨zTb_mem2 768 (by decide +kernel) rfl, zTb_mem2 70 (by decide +kernel) rfl, (by decide +kernel), (by decide)⟩, zTb_mem2 766 (by decide +kernel) rfl, zTb_mem2 767 (by decide +kernel) rfl⟩
theorem mX4_isDarn : zMs yX4_isDarn cX4_isDarn 4 (some .boolean) 4 := ⟨⟨zTb_mem2 771 (by decide +kernel) rfl, zTb_mem2 70 (by decide +kernel) rfl, (by decide +kernel), (by decide)⟩, zTb_mem2 770 (by decide +kernel) rfl⟩
theorem mX4_full : zMv yX4_full cX4_full 1 (some .int) 0 RX4 := ⟨⟨zTb_mem2 777 (by decide +kernel) rfl, zTb_mem2 70 (by decide +kernel) rfl, (by decide +kernel), (by decide)⟩, zTb_mem2 776 (by decide +kernel) rfl, zTb_mem2 31 (by decide +kernel) rfl⟩
theorem mX4_minds : zMv yX4_minds cX4_minds 1 none 0 RX4 := ⟨⟨zTb_mem2 781 (by decide +kernel) rfl, zTb_mem2 70 (by decide +kernel) rfl, (by decide +kernel), (by decide)⟩, zTb_mem2 780 (by decide +kernel) rfl, zTb_mem2 32 (by decide +kernel) rfl⟩
theorem mX4_copy : zMv yX4_copy cX4_copy 5 none 3 RX4 := ⟨⟨zTb_mem2 785 (by decide +kernel) rfl, zTb_mem2 70 (by decide +kernel) rfl, (by decide +kernel), (by decide)⟩, zTb_mem2 784 (by decide +kernel) rfl, zTb_mem2 33 (by decide +kernel) rfl⟩
theorem mX4_puts : zMv yX4_puts cX4_puts 7 none 5 RX4 := ⟨⟨zTb_mem2 789 (by decide +kernel) rfl, zTb_mem2 70 (by decide +kernel) rfl, (by decide +kernel), (by decide)⟩, zTb_mem2 788 (by decide +kernel) rfl, zTb_mem2 34 (by decide +kernel) rfl⟩
theorem mX4_placeOf : zMs yX4_placeOf cX4_placeOf 2 (some .int) 2 := ⟨⟨zTb_mem2 792 (by decide +kernel) rfl, zTb_mem2 70 (by decide +kernel) rfl, (by decide +kernel), (by decide)⟩, zTb_mem2 791 (by decide +kernel) rfl⟩
theorem mX4_unpick : zMv yX4_unpick cX4_unpick 3 (some .int) 1 RX4 := ⟨⟨zTb_mem2 796 (by decide +kernel) rfl, zTb_mem2 70 (by decide +kernel) rfl, (by decide +kernel), (by decide)⟩, zTb_mem2 794 (by decide +kernel) rfl, zTb_mem2 795 (by decide +kernel) rfl⟩
theorem mX4_no : zMv yX4_no cX4_no 1 (some .int) 0 RX4 := ⟨⟨zTb_mem2 800 (by decide +kernel) rfl, zTb_mem2 70 (by decide +kernel) rfl, (by decide +kernel), (by decide)⟩, zTb_mem2 799 (by decide +kernel) rfl, zTb_mem2 35 (by decide +kernel) rfl⟩
theorem mX4_topOf : zMv yX4_topOf cX4_topOf 4 (some .int) 2 RX4 := ⟨⟨zTb_mem2 804 (by decide +kernel) rfl, zTb_mem2 70 (by decide +kernel) rfl, (by decide +kernel), (by decide)⟩, zTb_mem2 803 (by decide +kernel) rfl, zTb_mem2 36 (by decide +kernel) rfl⟩
theorem mX4_years : zMv yX4_years cX4_years 3 (some .int) 1 RX4 := ⟨⟨zTb_mem2 808 (by decide +kernel) rfl, zTb_mem2 70 (by decide +kernel) rfl, (by decide +kernel), (by decide)⟩, zTb_mem2 806 (by decide +kernel) rfl, zTb_mem2 807 (by decide +kernel) rfl⟩
theorem mX4_passes : zMv yX4_passes cX4_passes 5 none 2 RX4 := ⟨⟨zTb_mem2 813 (by decide +kernel) rfl, zTb_mem2 70 (by decide +kernel) rfl, (by decide +kernel), (by decide)⟩, zTb_mem2 812 (by decide +kernel) rfl, zTb_mem2 37 (by decide +kernel) rfl⟩
theorem mX4_loses : zMs yX4_loses cX4_loses 3 (some .int) 3 := ⟨⟨zTb_mem2 816 (by decide +kernel) rfl, zTb_mem2 70 (by decide +kernel) rfl, (by decide +kernel), (by decide)⟩, zTb_mem2 815 (by decide +kernel) rfl⟩
theorem mX4_holesIn : zMv yX4_holesIn cX4_holesIn 4 (some .int) 1 RX4 := ⟨⟨zTb_mem2 820 (by decide +kernel) rfl, zTb_mem2 70 (by decide +kernel) rfl, (by decide +kernel), (by decide)⟩, zTb_mem2 819 (by decide +kernel) rfl, zTb_mem2 38 (by decide +kernel) rfl⟩
theorem mX4_ones : zMs yX4_ones cX4_ones 3 (some .int) 1 := ⟨⟨zTb_mem2 823 (by decide +kernel) rfl, zTb_mem2 70 (by decide +kernel) rfl, (by decide +kernel), (by decide)⟩, zTb_mem2 822 (by decide +kernel) rfl⟩
theorem mX4_undo : zMv yX4_undo cX4_undo 1 (some .int) 0 RX4 := ⟨⟨zTb_mem2 827 (by decide +kernel) rfl, zTb_mem2 70 (by decide +kernel) rfl, (by decide +kernel), (by decide)⟩, zTb_mem2 825 (by decide +kernel) rfl, zTb_mem2 826 (by decide +kernel) rfl⟩
theorem mX4_type : zMv yX4_type cX4_type 2 (some .int) 1 RX4 := ⟨⟨zTb_mem2 831 (by decide +kernel) rfl, zTb_mem2 70 (by decide +kernel) rfl, (by decide +kernel), (by decide)⟩, zTb_mem2 829 (by decide +kernel) rfl, zTb_mem2 830 (by decide +kernel) rfl⟩
theorem mX4_clear : zMv yX4_clear cX4_clear 2 (some .int) 0 RX4 := ⟨⟨zTb_mem2 836 (by decide +kernel) rfl, zTb_mem2 70 (by decide +kernel) rfl, (by decide +kernel), (by decide)⟩, zTb_mem2 834 (by decide +kernel) rfl, zTb_mem2 835 (by decide +kernel) rfl⟩
theorem mX4_read : zMv yX4_read cX4_read 2 (some .int) 0 RX4 := ⟨⟨zTb_mem2 840 (by decide +kernel) rfl, zTb_mem2 70 (by decide +kernel) rfl, (by decide +kernel), (by decide)⟩, zTb_mem2 838 (by decide +kernel) rfl, zTb_mem2 839 (by decide +kernel) rfl⟩
theorem mX4_token : zMv yX4_token cX4_token 1 none 0 RX4 := ⟨⟨zTb_mem2 844 (by decide +kernel) rfl, zTb_mem2 70 (by decide +kernel) rfl, (by decide +kernel), (by decide)⟩, zTb_mem2 843 (by decide +kernel) rfl, zTb_mem2 39 (by decide +kernel) rfl⟩
theorem mX4_byteAt : zMv yX4_byteAt cX4_byteAt 2 (some .int) 1 RX4 := ⟨⟨zTb_mem2 848 (by decide +kernel) rfl, zTb_mem2 70 (by decide +kernel) rfl, (by decide +kernel), (by decide)⟩, zTb_mem2 847 (by decide +kernel) rfl, zTb_mem2 40 (by decide +kernel) rfl⟩
theorem mX4_takesItem : zMv yX4_takesItem cX4_takesItem 5 (some .boolean) 1 RX4 := ⟨⟨zTb_mem2 856 (by decide +kernel) rfl, zTb_mem2 70 (by decide +kernel) rfl, (by decide +kernel), (by decide)⟩, zTb_mem2 855 (by decide +kernel) rfl, zTb_mem2 41 (by decide +kernel) rfl⟩
theorem mX4_wordNow : zMv yX4_wordNow cX4_wordNow 1 (some .int) 0 RX4 := ⟨⟨zTb_mem2 860 (by decide +kernel) rfl, zTb_mem2 70 (by decide +kernel) rfl, (by decide +kernel), (by decide)⟩, zTb_mem2 859 (by decide +kernel) rfl, zTb_mem2 42 (by decide +kernel) rfl⟩
theorem mX4_isNamed : zMv yX4_isNamed cX4_isNamed 5 (some .boolean) 4 RX4 := ⟨⟨zTb_mem2 864 (by decide +kernel) rfl, zTb_mem2 70 (by decide +kernel) rfl, (by decide +kernel), (by decide)⟩, zTb_mem2 863 (by decide +kernel) rfl, zTb_mem2 43 (by decide +kernel) rfl⟩
theorem mX4_takesNumber : zMv yX4_takesNumber cX4_takesNumber 3 (some .boolean) 1 RX4 := ⟨⟨zTb_mem2 868 (by decide +kernel) rfl, zTb_mem2 70 (by decide +kernel) rfl, (by decide +kernel), (by decide)⟩, zTb_mem2 867 (by decide +kernel) rfl, zTb_mem2 44 (by decide +kernel) rfl⟩
theorem mX4_tellsItem : zMv yX4_tellsItem cX4_tellsItem 3 (some .boolean) 1 RX4 := ⟨⟨zTb_mem2 872 (by decide +kernel) rfl, zTb_mem2 70 (by decide +kernel) rfl, (by decide +kernel), (by decide)⟩, zTb_mem2 871 (by decide +kernel) rfl, zTb_mem2 45 (by decide +kernel) rfl⟩
theorem mX4_of : zMv yX4_of cX4_of 5 (some .int) 3 RX4 := ⟨⟨zTb_mem2 876 (by decide +kernel) rfl, zTb_mem2 70 (by decide +kernel) rfl, (by decide +kernel), (by decide)⟩, zTb_mem2 874 (by decide +kernel) rfl, zTb_mem2 875 (by decide +kernel) rfl⟩
theorem mX4_countsOf : zMv yX4_countsOf cX4_countsOf 8 (some .int) 3 RX4 := ⟨⟨zTb_mem2 880 (by decide +kernel) rfl, zTb_mem2 70 (by decide +kernel) rfl, (by decide +kernel), (by decide)⟩, zTb_mem2 879 (by decide +kernel) rfl, zTb_mem2 46 (by decide +kernel) rfl⟩
theorem mX4_cell : zMv yX4_cell cX4_cell 3 (some .int) 2 RX4 := ⟨⟨zTb_mem2 884 (by decide +kernel) rfl, zTb_mem2 70 (by decide +kernel) rfl, (by decide +kernel), (by decide)⟩, zTb_mem2 882 (by decide +kernel) rfl, zTb_mem2 883 (by decide +kernel) rfl⟩
theorem mX4_claims : zMv yX4_claims cX4_claims 3 (some .int) 2 RX4 := ⟨⟨zTb_mem2 888 (by decide +kernel) rfl, zTb_mem2 70 (by decide +kernel) rfl, (by decide +kernel), (by decide)⟩, zTb_mem2 886 (by decide +kernel) rfl, zTb_mem2 887 (by decide +kernel) rfl⟩
theorem mX4_isFamily : zMs yX4_isFamily cX4_isFamily 1 (some .boolean) 1 := ⟨⟨zTb_mem2 891 (by decide +kernel) rfl, zTb_mem2 70 (by decide +kernel) rfl, (by decide +kernel), (by decide)⟩, zTb_mem2 890 (by decide +kernel) rfl⟩
theorem mX4_isLaw : zMs yX4_isLaw cX4_isLaw 1 (some .boolean) 1 := ⟨⟨zTb_mem2 894 (by decide +kernel) rfl, zTb_mem2 70 (by decide +kernel) rfl, (by decide +kernel), (by decide)⟩, zTb_mem2 893 (by decide +kernel) rfl⟩
theorem mX4_claimsIn : zMv yX4_claimsIn cX4_claimsIn 10 (some .int) 3 RX4 := ⟨⟨zTb_mem2 899 (by decide +kernel) rfl, zTb_mem2 70 (by decide +kernel) rfl, (by decide +kernel), (by decide)⟩, zTb_mem2 898 (by decide +kernel) rfl, zTb_mem2 47 (by decide +kernel) rfl⟩
theorem mX4_linesOf : zMv yX4_linesOf cX4_linesOf 6 (some .int) 2 RX4 := ⟨⟨zTb_mem2 903 (by decide +kernel) rfl, zTb_mem2 70 (by decide +kernel) rfl, (by decide +kernel), (by decide)⟩, zTb_mem2 902 (by decide +kernel) rfl, zTb_mem2 48 (by decide +kernel) rfl⟩
theorem mX4_familyAt : zMv yX4_familyAt cX4_familyAt 4 (some .int) 2 RX4 := ⟨⟨zTb_mem2 907 (by decide +kernel) rfl, zTb_mem2 70 (by decide +kernel) rfl, (by decide +kernel), (by decide)⟩, zTb_mem2 906 (by decide +kernel) rfl, zTb_mem2 49 (by decide +kernel) rfl⟩
theorem mX4_owner : zMv yX4_owner cX4_owner 3 (some .int) 2 RX4 := ⟨⟨zTb_mem2 911 (by decide +kernel) rfl, zTb_mem2 70 (by decide +kernel) rfl, (by decide +kernel), (by decide)⟩, zTb_mem2 909 (by decide +kernel) rfl, zTb_mem2 910 (by decide +kernel) rfl⟩
theorem mX4_passesMany : zMv yX4_passesMany cX4_passesMany 3 none 1 RX4 := ⟨⟨zTb_mem2 916 (by decide +kernel) rfl, zTb_mem2 70 (by decide +kernel) rfl, (by decide +kernel), (by decide)⟩, zTb_mem2 915 (by decide +kernel) rfl, zTb_mem2 50 (by decide +kernel) rfl⟩
theorem mX4_tries : zMv yX4_tries cX4_tries 1 none 0 RX4 := ⟨⟨zTb_mem2 920 (by decide +kernel) rfl, zTb_mem2 70 (by decide +kernel) rfl, (by decide +kernel), (by decide)⟩, zTb_mem2 919 (by decide +kernel) rfl, zTb_mem2 51 (by decide +kernel) rfl⟩
theorem mX4_ownerIn : zMv yX4_ownerIn cX4_ownerIn 8 (some .int) 2 RX4 := ⟨⟨zTb_mem2 924 (by decide +kernel) rfl, zTb_mem2 70 (by decide +kernel) rfl, (by decide +kernel), (by decide)⟩, zTb_mem2 923 (by decide +kernel) rfl, zTb_mem2 52 (by decide +kernel) rfl⟩
theorem mX4_laws : zMv yX4_laws cX4_laws 4 (some .int) 1 RX4 := ⟨⟨zTb_mem2 928 (by decide +kernel) rfl, zTb_mem2 70 (by decide +kernel) rfl, (by decide +kernel), (by decide)⟩, zTb_mem2 926 (by decide +kernel) rfl, zTb_mem2 927 (by decide +kernel) rfl⟩
theorem mX4_share : zMv yX4_share cX4_share 3 (some .int) 1 RX4 := ⟨⟨zTb_mem2 932 (by decide +kernel) rfl, zTb_mem2 70 (by decide +kernel) rfl, (by decide +kernel), (by decide)⟩, zTb_mem2 930 (by decide +kernel) rfl, zTb_mem2 931 (by decide +kernel) rfl⟩
theorem mX4_allClaims : zMv yX4_allClaims cX4_allClaims 3 (some .int) 2 RX4 := ⟨⟨zTb_mem2 936 (by decide +kernel) rfl, zTb_mem2 70 (by decide +kernel) rfl, (by decide +kernel), (by decide)⟩, zTb_mem2 935 (by decide +kernel) rfl, zTb_mem2 53 (by decide +kernel) rfl⟩
theorem mX4_tells : zMv yX4_tells cX4_tells 11 (some .int) 2 RX4 := ⟨⟨zTb_mem2 940 (by decide +kernel) rfl, zTb_mem2 70 (by decide +kernel) rfl, (by decide +kernel), (by decide)⟩, zTb_mem2 939 (by decide +kernel) rfl, zTb_mem2 54 (by decide +kernel) rfl⟩
theorem mX4_twos : zMv yX4_twos cX4_twos 3 (some .int) 1 RX4 := ⟨⟨zTb_mem2 944 (by decide +kernel) rfl, zTb_mem2 70 (by decide +kernel) rfl, (by decide +kernel), (by decide)⟩, zTb_mem2 942 (by decide +kernel) rfl, zTb_mem2 943 (by decide +kernel) rfl⟩
theorem mX4_whole : zMv yX4_whole cX4_whole 1 (some .int) 0 RX4 := ⟨⟨zTb_mem2 948 (by decide +kernel) rfl, zTb_mem2 70 (by decide +kernel) rfl, (by decide +kernel), (by decide)⟩, zTb_mem2 946 (by decide +kernel) rfl, zTb_mem2 947 (by decide +kernel) rfl⟩
theorem mX4_wholeTried : zMv yX4_wholeTried cX4_wholeTried 4 (some .int) 0 RX4 := ⟨⟨zTb_mem2 952 (by decide +kernel) rfl, zTb_mem2 70 (by decide +kernel) rfl, (by decide +kernel), (by decide)⟩, zTb_mem2 951 (by decide +kernel) rfl, zTb_mem2 55 (by decide +kernel) rfl⟩
theorem mX4_lastsOf : zMv yX4_lastsOf cX4_lastsOf 5 (some .int) 1 RX4 := ⟨⟨zTb_mem2 956 (by decide +kernel) rfl, zTb_mem2 70 (by decide +kernel) rfl, (by decide +kernel), (by decide)⟩, zTb_mem2 955 (by decide +kernel) rfl, zTb_mem2 56 (by decide +kernel) rfl⟩
theorem mX4_holes : zMv yX4_holes cX4_holes 2 (some .int) 1 RX4 := ⟨⟨zTb_mem2 960 (by decide +kernel) rfl, zTb_mem2 70 (by decide +kernel) rfl, (by decide +kernel), (by decide)⟩, zTb_mem2 958 (by decide +kernel) rfl, zTb_mem2 959 (by decide +kernel) rfl⟩
theorem mX4_best : zMv yX4_best cX4_best 8 (some .int) 3 RX4 := ⟨⟨zTb_mem2 964 (by decide +kernel) rfl, zTb_mem2 70 (by decide +kernel) rfl, (by decide +kernel), (by decide)⟩, zTb_mem2 962 (by decide +kernel) rfl, zTb_mem2 963 (by decide +kernel) rfl⟩
theorem mX4_isThread : zMs yX4_isThread cX4_isThread 4 (some .boolean) 4 := ⟨⟨zTb_mem2 967 (by decide +kernel) rfl, zTb_mem2 70 (by decide +kernel) rfl, (by decide +kernel), (by decide)⟩, zTb_mem2 966 (by decide +kernel) rfl⟩
theorem mX4_split : zMv yX4_split cX4_split 14 (some .int) 3 RX4 := ⟨⟨zTb_mem2 971 (by decide +kernel) rfl, zTb_mem2 70 (by decide +kernel) rfl, (by decide +kernel), (by decide)⟩, zTb_mem2 969 (by decide +kernel) rfl, zTb_mem2 970 (by decide +kernel) rfl⟩
theorem mX4_layLasting : zMv yX4_layLasting cX4_layLasting 5 none 2 RX4 := ⟨⟨zTb_mem2 975 (by decide +kernel) rfl, zTb_mem2 70 (by decide +kernel) rfl, (by decide +kernel), (by decide)⟩, zTb_mem2 974 (by decide +kernel) rfl, zTb_mem2 57 (by decide +kernel) rfl⟩
theorem mX4_reading : zMv yX4_reading cX4_reading 5 (some .int) 3 RX4 := ⟨⟨zTb_mem2 979 (by decide +kernel) rfl, zTb_mem2 70 (by decide +kernel) rfl, (by decide +kernel), (by decide)⟩, zTb_mem2 977 (by decide +kernel) rfl, zTb_mem2 978 (by decide +kernel) rfl⟩
theorem mX4_forget : zMv yX4_forget cX4_forget 2 (some .int) 0 RX4 := ⟨⟨zTb_mem2 983 (by decide +kernel) rfl, zTb_mem2 70 (by decide +kernel) rfl, (by decide +kernel), (by decide)⟩, zTb_mem2 981 (by decide +kernel) rfl, zTb_mem2 982 (by decide +kernel) rfl⟩
theorem mX4_may : zMv yX4_may cX4_may 2 (some .int) 1 RX4 := ⟨⟨zTb_mem2 987 (by decide +kernel) rfl, zTb_mem2 70 (by decide +kernel) rfl, (by decide +kernel), (by decide)⟩, zTb_mem2 985 (by decide +kernel) rfl, zTb_mem2 986 (by decide +kernel) rfl⟩
theorem mX4_kindsOf : zMv yX4_kindsOf cX4_kindsOf 7 (some .int) 1 RX4 := ⟨⟨zTb_mem2 991 (by decide +kernel) rfl, zTb_mem2 70 (by decide +kernel) rfl, (by decide +kernel), (by decide)⟩, zTb_mem2 990 (by decide +kernel) rfl, zTb_mem2 58 (by decide +kernel) rfl⟩
theorem mX4_leftOf : zMv yX4_leftOf cX4_leftOf 6 (some .int) 3 RX4 := ⟨⟨zTb_mem2 995 (by decide +kernel) rfl, zTb_mem2 70 (by decide +kernel) rfl, (by decide +kernel), (by decide)⟩, zTb_mem2 994 (by decide +kernel) rfl, zTb_mem2 59 (by decide +kernel) rfl⟩
theorem mX4_look : zMv yX4_look cX4_look 11 (some .int) 1 RX4 := ⟨⟨zTb_mem2 999 (by decide +kernel) rfl, zTb_mem2 70 (by decide +kernel) rfl, (by decide +kernel), (by decide)⟩, zTb_mem2 997 (by decide +kernel) rfl, zTb_mem2 998 (by decide +kernel) rfl⟩
theorem mX4_has : zMs yX4_has cX4_has 2 (some .boolean) 2 := ⟨⟨zTb_mem2 1002 (by decide +kernel) rfl, zTb_mem2 70 (by decide +kernel) rfl, (by decide +kernel), (by decide)⟩, zTb_mem2 1001 (by decide +kernel) rfl⟩
theorem mX4_orders : zMv yX4_orders cX4_orders 9 (some .int) 2 RX4 := ⟨⟨zTb_mem2 1006 (by decide +kernel) rfl, zTb_mem2 70 (by decide +kernel) rfl, (by decide +kernel), (by decide)⟩, zTb_mem2 1004 (by decide +kernel) rfl, zTb_mem2 1005 (by decide +kernel) rfl⟩
theorem mX4_badAs : zMv yX4_badAs cX4_badAs 2 (some .int) 1 RX4 := ⟨⟨zTb_mem2 1011 (by decide +kernel) rfl, zTb_mem2 70 (by decide +kernel) rfl, (by decide +kernel), (by decide)⟩, zTb_mem2 1010 (by decide +kernel) rfl, zTb_mem2 60 (by decide +kernel) rfl⟩
theorem mX4_canCome : zMv yX4_canCome cX4_canCome 6 (some .boolean) 2 RX4 := ⟨⟨zTb_mem2 1015 (by decide +kernel) rfl, zTb_mem2 70 (by decide +kernel) rfl, (by decide +kernel), (by decide)⟩, zTb_mem2 1014 (by decide +kernel) rfl, zTb_mem2 61 (by decide +kernel) rfl⟩
theorem mX4_yearOf : zMv yX4_yearOf cX4_yearOf 2 (some .int) 1 RX4 := ⟨⟨zTb_mem2 1019 (by decide +kernel) rfl, zTb_mem2 70 (by decide +kernel) rfl, (by decide +kernel), (by decide)⟩, zTb_mem2 1018 (by decide +kernel) rfl, zTb_mem2 62 (by decide +kernel) rfl⟩
theorem mX4_odds : zMv yX4_odds cX4_odds 12 (some .int) 3 RX4 := ⟨⟨zTb_mem2 1023 (by decide +kernel) rfl, zTb_mem2 70 (by decide +kernel) rfl, (by decide +kernel), (by decide)⟩, zTb_mem2 1021 (by decide +kernel) rfl, zTb_mem2 1022 (by decide +kernel) rfl⟩
theorem mX4_drawn : zMv yX4_drawn cX4_drawn 7 (some .int) 2 RX4 := ⟨⟨zTb_mem2 1028 (by decide +kernel) rfl, zTb_mem2 70 (by decide +kernel) rfl, (by decide +kernel), (by decide)⟩, zTb_mem2 1026 (by decide +kernel) rfl, zTb_mem2 1027 (by decide +kernel) rfl⟩
theorem mX4_part : zMv yX4_part cX4_part 2 (some .long) 1 RX4 := ⟨⟨zTb_mem2 1038 (by decide +kernel) rfl, zTb_mem2 70 (by decide +kernel) rfl, (by decide +kernel), (by decide)⟩, zTb_mem2 1036 (by decide +kernel) rfl, zTb_mem2 1037 (by decide +kernel) rfl⟩
theorem mX4_image : zMv yX4_image cX4_image 2 (some .int) 1 RX4 := ⟨⟨zTb_mem2 1042 (by decide +kernel) rfl, zTb_mem2 70 (by decide +kernel) rfl, (by decide +kernel), (by decide)⟩, zTb_mem2 1040 (by decide +kernel) rfl, zTb_mem2 1041 (by decide +kernel) rfl⟩
theorem mX4_from : zMv yX4_from cX4_from 2 (some .int) 1 RX4 := ⟨⟨zTb_mem2 1046 (by decide +kernel) rfl, zTb_mem2 70 (by decide +kernel) rfl, (by decide +kernel), (by decide)⟩, zTb_mem2 1044 (by decide +kernel) rfl, zTb_mem2 1045 (by decide +kernel) rfl⟩
theorem mX4_status : zMv yX4_status cX4_status 2 (some .int) 1 RX4 := ⟨⟨zTb_mem2 1050 (by decide +kernel) rfl, zTb_mem2 70 (by decide +kernel) rfl, (by decide +kernel), (by decide)⟩, zTb_mem2 1048 (by decide +kernel) rfl, zTb_mem2 1049 (by decide +kernel) rfl⟩
theorem mX4_count : zMv yX4_count cX4_count 2 (some .int) 1 RX4 := ⟨⟨zTb_mem2 1054 (by decide +kernel) rfl, zTb_mem2 70 (by decide +kernel) rfl, (by decide +kernel), (by decide)⟩, zTb_mem2 1052 (by decide +kernel) rfl, zTb_mem2 1053 (by decide +kernel) rfl⟩
theorem mX4_countOf : zMv yX4_countOf cX4_countOf 2 (some .int) 1 RX4 := ⟨⟨zTb_mem2 1058 (by decide +kernel) rfl, zTb_mem2 70 (by decide +kernel) rfl, (by decide +kernel), (by decide)⟩, zTb_mem2 1057 (by decide +kernel) rfl, zTb_mem2 63 (by decide +kernel) rfl⟩
theorem mX4_digest : zMv yX4_digest cX4_digest 3 (some .long) 0 RX4 := ⟨⟨zTb_mem2 1062 (by decide +kernel) rfl, zTb_mem2 70 (by decide +kernel) rfl, (by decide +kernel), (by decide)⟩, zTb_mem2 1060 (by decide +kernel) rfl, zTb_mem2 1061 (by decide +kernel) rfl⟩
theorem mX4_mix : zMv yX4_mix cX4_mix 3 none 1 RX4 := ⟨⟨zTb_mem2 1067 (by decide +kernel) rfl, zTb_mem2 70 (by decide +kernel) rfl, (by decide +kernel), (by decide)⟩, zTb_mem2 1066 (by decide +kernel) rfl, zTb_mem2 64 (by decide +kernel) rfl⟩
theorem lkL_9 : Cond.methodLink RL 9 yX3_init ∈ zTb := zTb_mem2 76 (by decide +kernel) rfl
theorem lkX3_3 : Cond.methodLink RX3 3 Lib.objectInit ∈ zTb := zTb_mem2 79 (by decide +kernel) rfl
theorem lkX1_3 : Cond.methodLink RX1 3 Lib.objectInit ∈ zTb := zTb_mem2 87 (by decide +kernel) rfl
theorem lkX1_11 : Cond.methodLink RX1 11 yX0_init ∈ zTb := zTb_mem2 90 (by decide +kernel) rfl
theorem lkX0_3 : Cond.methodLink RX0 3 Lib.objectInit ∈ zTb := zTb_mem2 93 (by decide +kernel) rfl
theorem lkX3_22 : Cond.methodLink RX3 22 yX0_init ∈ zTb := zTb_mem2 132 (by decide +kernel) rfl
theorem lkX2_3 : Cond.methodLink RX2 3 Lib.objectInit ∈ zTb := zTb_mem2 138 (by decide +kernel) rfl
theorem lkL_13 : Cond.methodLink RL 13 yX3_sock ∈ zTb := zTb_mem2 210 (by decide +kernel) rfl
theorem lkX3_54 : Cond.methodLink RX3 54 yX3_within ∈ zTb := zTb_mem2 214 (by decide +kernel) rfl
theorem lkX3_58 : Cond.methodLink RX3 58 yX3_refuse ∈ zTb := zTb_mem2 217 (by decide +kernel) rfl
theorem lkX3_65 : Cond.methodLink RX3 65 yX0_darns ∈ zTb := zTb_mem2 221 (by decide +kernel) rfl
theorem lkX0_39 : Cond.methodLink RX0 39 yX0_darnsOf ∈ zTb := zTb_mem2 225 (by decide +kernel) rfl
theorem lkX0_35 : Cond.methodLink RX0 35 yX0_many ∈ zTb := zTb_mem2 229 (by decide +kernel) rfl
theorem lkX3_69 : Cond.methodLink RX3 69 yX1_renew ∈ zTb := zTb_mem2 233 (by decide +kernel) rfl
theorem lkX1_25 : Cond.methodLink RX1 25 yX0_renew ∈ zTb := zTb_mem2 237 (by decide +kernel) rfl
theorem lkL_18 : Cond.methodLink RL 18 yX3_wear ∈ zTb := zTb_mem2 241 (by decide +kernel) rfl
theorem lkX3_73 : Cond.methodLink RX3 73 yX3_wearsAsTold ∈ zTb := zTb_mem2 245 (by decide +kernel) rfl
theorem lkX3_96 : Cond.methodLink RX3 96 yX3_between ∈ zTb := zTb_mem2 248 (by decide +kernel) rfl
theorem lkL_23 : Cond.methodLink RL 23 yX3_darn ∈ zTb := zTb_mem2 251 (by decide +kernel) rfl
theorem lkX3_79 : Cond.methodLink RX3 79 yX0_verdict ∈ zTb := zTb_mem2 255 (by decide +kernel) rfl
theorem lkX0_50 : Cond.methodLink RX0 50 yX0_hasRoom ∈ zTb := zTb_mem2 261 (by decide +kernel) rfl
theorem lkX3_83 : Cond.methodLink RX3 83 yX1_keep ∈ zTb := zTb_mem2 265 (by decide +kernel) rfl
theorem lkX1_40 : Cond.methodLink RX1 40 arraycopyName ∈ zTb := zTb_mem2 269 (by decide +kernel) rfl
theorem lkX1_52 : Cond.methodLink RX1 52 yJ9_min_7cf53 ∈ zTb := zTb_mem2 272 (by decide +kernel) rfl
theorem lkX3_86 : Cond.methodLink RX3 86 yX0_put ∈ zTb := zTb_mem2 275 (by decide +kernel) rfl
theorem lkX0_53 : Cond.methodLink RX0 53 yX0_verdict ∈ zTb := zTb_mem2 279 (by decide +kernel) rfl
theorem lkL_28 : Cond.methodLink RL 28 yX3_unpick ∈ zTb := zTb_mem2 280 (by decide +kernel) rfl
theorem lkX3_89 : Cond.methodLink RX3 89 yX0_isHole ∈ zTb := zTb_mem2 284 (by decide +kernel) rfl
theorem lkX3_93 : Cond.methodLink RX3 93 yX0_take ∈ zTb := zTb_mem2 288 (by decide +kernel) rfl
theorem lkX0_42 : Cond.methodLink RX0 42 yX0_isHole ∈ zTb := zTb_mem2 292 (by decide +kernel) rfl
theorem lkX0_31 : Cond.methodLink RX0 31 yX0_get ∈ zTb := zTb_mem2 293 (by decide +kernel) rfl
theorem lkL_32 : Cond.methodLink RL 32 yX3_years ∈ zTb := zTb_mem2 297 (by decide +kernel) rfl
theorem lkX3_100 : Cond.methodLink RX3 100 yX0_pass ∈ zTb := zTb_mem2 301 (by decide +kernel) rfl
theorem lkX0_57 : Cond.methodLink RX0 57 yX0_wearTop ∈ zTb := zTb_mem2 305 (by decide +kernel) rfl
theorem lkX0_61 : Cond.methodLink RX0 61 yX0_threadAt ∈ zTb := zTb_mem2 309 (by decide +kernel) rfl
theorem lkX3_103 : Cond.methodLink RX3 103 yX0_holeBits ∈ zTb := zTb_mem2 316 (by decide +kernel) rfl
theorem lkX3_106 : Cond.methodLink RX3 106 yJ6_bitCount_0f7a4 ∈ zTb := zTb_mem2 320 (by decide +kernel) rfl
theorem lkL_36 : Cond.methodLink RL 36 yX3_undo ∈ zTb := zTb_mem2 326 (by decide +kernel) rfl
theorem lkX3_115 : Cond.methodLink RX3 115 yX1_bringBack ∈ zTb := zTb_mem2 330 (by decide +kernel) rfl
theorem lkL_41 : Cond.methodLink RL 41 yX3_type ∈ zTb := zTb_mem2 334 (by decide +kernel) rfl
theorem lkL_45 : Cond.methodLink RL 45 yX3_clear ∈ zTb := zTb_mem2 338 (by decide +kernel) rfl
theorem lkL_49 : Cond.methodLink RL 49 yX3_read ∈ zTb := zTb_mem2 342 (by decide +kernel) rfl
theorem lkX3_124 : Cond.methodLink RX3 124 yX2_fault ∈ zTb := zTb_mem2 346 (by decide +kernel) rfl
theorem lkX2_28 : Cond.methodLink RX2 28 yX2_step ∈ zTb := zTb_mem2 350 (by decide +kernel) rfl
theorem lkX2_54 : Cond.methodLink RX2 54 yX2_isLetter ∈ zTb := zTb_mem2 354 (by decide +kernel) rfl
theorem lkX2_58 : Cond.methodLink RX2 58 yX2_takeWord ∈ zTb := zTb_mem2 358 (by decide +kernel) rfl
theorem lkX2_67 : Cond.methodLink RX2 67 yX2_spells ∈ zTb := zTb_mem2 362 (by decide +kernel) rfl
theorem lkX2_61 : Cond.methodLink RX2 61 yX2_isFigure ∈ zTb := zTb_mem2 369 (by decide +kernel) rfl
theorem lkX2_64 : Cond.methodLink RX2 64 yX2_takeNumber ∈ zTb := zTb_mem2 372 (by decide +kernel) rfl
theorem lkX2_31 : Cond.methodLink RX2 31 yX2_takeItem ∈ zTb := zTb_mem2 376 (by decide +kernel) rfl
theorem lkX3_127 : Cond.methodLink RX3 127 yX2_refusedOn ∈ zTb := zTb_mem2 382 (by decide +kernel) rfl
theorem lkX2_77 : Cond.methodLink RX2 77 yX2_isToldTo ∈ zTb := zTb_mem2 386 (by decide +kernel) rfl
theorem lkX2_81 : Cond.methodLink RX2 81 yX0_renew ∈ zTb := zTb_mem2 390 (by decide +kernel) rfl
theorem lkX2_93 : Cond.methodLink RX2 93 yX0_verdict ∈ zTb := zTb_mem2 392 (by decide +kernel) rfl
theorem lkX2_97 : Cond.methodLink RX2 97 yX0_put ∈ zTb := zTb_mem2 393 (by decide +kernel) rfl
theorem lkX3_131 : Cond.methodLink RX3 131 yX0_copy ∈ zTb := zTb_mem2 394 (by decide +kernel) rfl
theorem lkX0_21 : Cond.methodLink RX0 21 arraycopyName ∈ zTb := zTb_mem2 398 (by decide +kernel) rfl
theorem lkL_53 : Cond.methodLink RL 53 yX3_of ∈ zTb := zTb_mem2 399 (by decide +kernel) rfl
theorem lkX3_138 : Cond.methodLink RX3 138 yX0_many ∈ zTb := zTb_mem2 403 (by decide +kernel) rfl
theorem lkX3_141 : Cond.methodLink RX3 141 yX0_counts ∈ zTb := zTb_mem2 404 (by decide +kernel) rfl
theorem lkX0_68 : Cond.methodLink RX0 68 yX0_countsOver ∈ zTb := zTb_mem2 408 (by decide +kernel) rfl
theorem lkX3_145 : Cond.methodLink RX3 145 yX0_get ∈ zTb := zTb_mem2 412 (by decide +kernel) rfl
theorem lkX3_149 : Cond.methodLink RX3 149 yX0_year ∈ zTb := zTb_mem2 413 (by decide +kernel) rfl
theorem lkX3_152 : Cond.methodLink RX3 152 yX3_loss ∈ zTb := zTb_mem2 417 (by decide +kernel) rfl
theorem lkL_58 : Cond.methodLink RL 58 yX3_cell ∈ zTb := zTb_mem2 418 (by decide +kernel) rfl
theorem lkL_62 : Cond.methodLink RL 62 yX3_claims ∈ zTb := zTb_mem2 422 (by decide +kernel) rfl
theorem lkX3_155 : Cond.methodLink RX3 155 yX0_claimOf ∈ zTb := zTb_mem2 426 (by decide +kernel) rfl
theorem lkX0_95 : Cond.methodLink RX0 95 yX0_weigh ∈ zTb := zTb_mem2 430 (by decide +kernel) rfl
theorem lkX0_71 : Cond.methodLink RX0 71 yX0_weighThread ∈ zTb := zTb_mem2 434 (by decide +kernel) rfl
theorem lkX0_77 : Cond.methodLink RX0 77 yX0_addClaim ∈ zTb := zTb_mem2 438 (by decide +kernel) rfl
theorem lkX0_74 : Cond.methodLink RX0 74 yX0_topFamily ∈ zTb := zTb_mem2 442 (by decide +kernel) rfl
theorem lkX0_81 : Cond.methodLink RX0 81 yX0_lineFamily ∈ zTb := zTb_mem2 446 (by decide +kernel) rfl
theorem lkX0_84 : Cond.methodLink RX0 84 yX0_weighAges ∈ zTb := zTb_mem2 452 (by decide +kernel) rfl
theorem lkX0_87 : Cond.methodLink RX0 87 yJ9_max_7cf53 ∈ zTb := zTb_mem2 456 (by decide +kernel) rfl
theorem lkL_66 : Cond.methodLink RL 66 yX3_owner ∈ zTb := zTb_mem2 459 (by decide +kernel) rfl
theorem lkX3_158 : Cond.methodLink RX3 158 yX3_tryYears ∈ zTb := zTb_mem2 463 (by decide +kernel) rfl
theorem lkX3_161 : Cond.methodLink RX3 161 yX0_ownerBy ∈ zTb := zTb_mem2 467 (by decide +kernel) rfl
theorem lkL_70 : Cond.methodLink RL 70 yX3_laws ∈ zTb := zTb_mem2 471 (by decide +kernel) rfl
theorem lkL_74 : Cond.methodLink RL 74 yX3_share ∈ zTb := zTb_mem2 475 (by decide +kernel) rfl
theorem lkX3_164 : Cond.methodLink RX3 164 yX0_allClaims ∈ zTb := zTb_mem2 479 (by decide +kernel) rfl
theorem lkX3_167 : Cond.methodLink RX3 167 yX3_setFraction ∈ zTb := zTb_mem2 483 (by decide +kernel) rfl
theorem lkX3_268 : Cond.methodLink RX3 268 yX3_commonDivisor ∈ zTb := zTb_mem2 487 (by decide +kernel) rfl
theorem lkL_78 : Cond.methodLink RL 78 yX3_twos ∈ zTb := zTb_mem2 490 (by decide +kernel) rfl
theorem lkX3_171 : Cond.methodLink RX3 171 yX0_isTwos ∈ zTb := zTb_mem2 494 (by decide +kernel) rfl
theorem lkX0_98 : Cond.methodLink RX0 98 yX0_ownerBy ∈ zTb := zTb_mem2 498 (by decide +kernel) rfl
theorem lkX0_101 : Cond.methodLink RX0 101 yX0_allClaims ∈ zTb := zTb_mem2 499 (by decide +kernel) rfl
theorem lkL_82 : Cond.methodLink RL 82 yX3_whole ∈ zTb := zTb_mem2 500 (by decide +kernel) rfl
theorem lkX3_174 : Cond.methodLink RX3 174 yX3_findSpans ∈ zTb := zTb_mem2 504 (by decide +kernel) rfl
theorem lkX3_183 : Cond.methodLink RX3 183 yX0_span ∈ zTb := zTb_mem2 508 (by decide +kernel) rfl
theorem lkX3_177 : Cond.methodLink RX3 177 yX3_leastSpanBut ∈ zTb := zTb_mem2 512 (by decide +kernel) rfl
theorem lkX3_186 : Cond.methodLink RX3 186 yJ9_min_7cf53 ∈ zTb := zTb_mem2 516 (by decide +kernel) rfl
theorem lkL_86 : Cond.methodLink RL 86 yX3_holes ∈ zTb := zTb_mem2 517 (by decide +kernel) rfl
theorem lkL_90 : Cond.methodLink RL 90 yX3_best ∈ zTb := zTb_mem2 521 (by decide +kernel) rfl
theorem lkX3_180 : Cond.methodLink RX3 180 yX0_hasRoom ∈ zTb := zTb_mem2 525 (by decide +kernel) rfl
theorem lkL_94 : Cond.methodLink RL 94 yX3_split ∈ zTb := zTb_mem2 526 (by decide +kernel) rfl
theorem lkX3_191 : Cond.methodLink RX3 191 yX3_findSplitSpans ∈ zTb := zTb_mem2 530 (by decide +kernel) rfl
theorem lkX3_195 : Cond.methodLink RX3 195 yX3_bestSplit ∈ zTb := zTb_mem2 534 (by decide +kernel) rfl
theorem lkX3_198 : Cond.methodLink RX3 198 yX3_splitSpan ∈ zTb := zTb_mem2 538 (by decide +kernel) rfl
theorem lkL_98 : Cond.methodLink RL 98 yX3_reading ∈ zTb := zTb_mem2 542 (by decide +kernel) rfl
theorem lkX3_205 : Cond.methodLink RX3 205 yX1_addReading ∈ zTb := zTb_mem2 546 (by decide +kernel) rfl
theorem lkL_102 : Cond.methodLink RL 102 yX3_forget ∈ zTb := zTb_mem2 550 (by decide +kernel) rfl
theorem lkL_106 : Cond.methodLink RL 106 yX3_may ∈ zTb := zTb_mem2 554 (by decide +kernel) rfl
theorem lkX3_208 : Cond.methodLink RX3 208 yX1_possibleKinds ∈ zTb := zTb_mem2 558 (by decide +kernel) rfl
theorem lkX1_58 : Cond.methodLink RX1 58 yX0_isHole ∈ zTb := zTb_mem2 562 (by decide +kernel) rfl
theorem lkX1_62 : Cond.methodLink RX1 62 yX1_agrees ∈ zTb := zTb_mem2 563 (by decide +kernel) rfl
theorem lkX1_66 : Cond.methodLink RX1 66 yX0_leftOf ∈ zTb := zTb_mem2 567 (by decide +kernel) rfl
theorem lkL_110 : Cond.methodLink RL 110 yX3_look ∈ zTb := zTb_mem2 571 (by decide +kernel) rfl
theorem lkX3_211 : Cond.methodLink RX3 211 yX3_mostAlike ∈ zTb := zTb_mem2 575 (by decide +kernel) rfl
theorem lkX3_274 : Cond.methodLink RX3 274 yX0_leftOf ∈ zTb := zTb_mem2 579 (by decide +kernel) rfl
theorem lkX3_277 : Cond.methodLink RX3 277 yJ9_max_7cf53 ∈ zTb := zTb_mem2 580 (by decide +kernel) rfl
theorem lkL_114 : Cond.methodLink RL 114 yX3_orders ∈ zTb := zTb_mem2 581 (by decide +kernel) rfl
theorem lkX3_214 : Cond.methodLink RX3 214 yX0_darnsOf ∈ zTb := zTb_mem2 585 (by decide +kernel) rfl
theorem lkX3_217 : Cond.methodLink RX3 217 yX3_findFirstOrder ∈ zTb := zTb_mem2 586 (by decide +kernel) rfl
theorem lkX3_280 : Cond.methodLink RX3 280 yX0_nextYear ∈ zTb := zTb_mem2 590 (by decide +kernel) rfl
theorem lkX3_220 : Cond.methodLink RX3 220 yX3_waysToOrder ∈ zTb := zTb_mem2 594 (by decide +kernel) rfl
theorem lkX3_283 : Cond.methodLink RX3 283 yX3_yearOrdered ∈ zTb := zTb_mem2 598 (by decide +kernel) rfl
theorem lkL_118 : Cond.methodLink RL 118 yX3_odds ∈ zTb := zTb_mem2 602 (by decide +kernel) rfl
theorem lkX3_223 : Cond.methodLink RX3 223 yX0_holeWays ∈ zTb := zTb_mem2 606 (by decide +kernel) rfl
theorem lkX0_104 : Cond.methodLink RX0 104 yX0_waysFrom ∈ zTb := zTb_mem2 610 (by decide +kernel) rfl
theorem lkX3_227 : Cond.methodLink RX3 227 yX3_powerOfTen ∈ zTb := zTb_mem2 618 (by decide +kernel) rfl
theorem lkL_122 : Cond.methodLink RL 122 yX3_drawn ∈ zTb := zTb_mem2 619 (by decide +kernel) rfl
theorem lkL_126 : Cond.methodLink RL 126 yX3_part ∈ zTb := zTb_mem2 629 (by decide +kernel) rfl
theorem lkL_131 : Cond.methodLink RL 131 yX3_image ∈ zTb := zTb_mem2 633 (by decide +kernel) rfl
theorem lkX3_242 : Cond.methodLink RX3 242 yX1_copy ∈ zTb := zTb_mem2 637 (by decide +kernel) rfl
theorem lkX1_36 : Cond.methodLink RX1 36 yX0_copy ∈ zTb := zTb_mem2 641 (by decide +kernel) rfl
theorem lkL_135 : Cond.methodLink RL 135 yX3_from ∈ zTb := zTb_mem2 642 (by decide +kernel) rfl
theorem lkL_139 : Cond.methodLink RL 139 yX3_status ∈ zTb := zTb_mem2 646 (by decide +kernel) rfl
theorem lkL_143 : Cond.methodLink RL 143 yX3_count ∈ zTb := zTb_mem2 650 (by decide +kernel) rfl
theorem lkX3_254 : Cond.methodLink RX3 254 yX3_howMany ∈ zTb := zTb_mem2 654 (by decide +kernel) rfl
theorem lkL_147 : Cond.methodLink RL 147 yX3_digest ∈ zTb := zTb_mem2 658 (by decide +kernel) rfl
theorem lkX3_261 : Cond.methodLink RX3 261 yX0_digested ∈ zTb := zTb_mem2 664 (by decide +kernel) rfl
theorem lkX3_265 : Cond.methodLink RX3 265 yX1_digestedReadings ∈ zTb := zTb_mem2 669 (by decide +kernel) rfl
theorem lkL_12 : Cond.methodLink RL 12 yX4_init ∈ zTb := zTb_mem2 676 (by decide +kernel) rfl
theorem lkX4_1 : Cond.methodLink RX4 1 Lib.objectInit ∈ zTb := zTb_mem2 679 (by decide +kernel) rfl
theorem lkX4_39 : Cond.methodLink RX4 39 yX4_begins ∈ zTb := zTb_mem2 680 (by decide +kernel) rfl
theorem lkL_17 : Cond.methodLink RL 17 yX4_sock ∈ zTb := zTb_mem2 740 (by decide +kernel) rfl
theorem lkX4_45 : Cond.methodLink RX4 45 yX4_in ∈ zTb := zTb_mem2 745 (by decide +kernel) rfl
theorem lkX4_65 : Cond.methodLink RX4 65 yX4_bad ∈ zTb := zTb_mem2 748 (by decide +kernel) rfl
theorem lkX4_69 : Cond.methodLink RX4 69 yX4_darnsIn ∈ zTb := zTb_mem2 752 (by decide +kernel) rfl
theorem lkL_22 : Cond.methodLink RL 22 yX4_wear ∈ zTb := zTb_mem2 756 (by decide +kernel) rfl
theorem lkX4_49 : Cond.methodLink RX4 49 yX4_isCell ∈ zTb := zTb_mem2 760 (by decide +kernel) rfl
theorem lkL_27 : Cond.methodLink RL 27 yX4_darn ∈ zTb := zTb_mem2 765 (by decide +kernel) rfl
theorem lkX4_77 : Cond.methodLink RX4 77 yX4_isDarn ∈ zTb := zTb_mem2 769 (by decide +kernel) rfl
theorem lkX4_81 : Cond.methodLink RX4 81 yX4_full ∈ zTb := zTb_mem2 774 (by decide +kernel) rfl
theorem lkX4_84 : Cond.methodLink RX4 84 yX4_minds ∈ zTb := zTb_mem2 778 (by decide +kernel) rfl
theorem lkX4_73 : Cond.methodLink RX4 73 yX4_copy ∈ zTb := zTb_mem2 782 (by decide +kernel) rfl
theorem lkX4_87 : Cond.methodLink RX4 87 yX4_puts ∈ zTb := zTb_mem2 786 (by decide +kernel) rfl
theorem lkX4_59 : Cond.methodLink RX4 59 yX4_placeOf ∈ zTb := zTb_mem2 790 (by decide +kernel) rfl
theorem lkL_31 : Cond.methodLink RL 31 yX4_unpick ∈ zTb := zTb_mem2 793 (by decide +kernel) rfl
theorem lkX4_91 : Cond.methodLink RX4 91 yX4_no ∈ zTb := zTb_mem2 797 (by decide +kernel) rfl
theorem lkX4_94 : Cond.methodLink RX4 94 yX4_topOf ∈ zTb := zTb_mem2 801 (by decide +kernel) rfl
theorem lkL_35 : Cond.methodLink RL 35 yX4_years ∈ zTb := zTb_mem2 805 (by decide +kernel) rfl
theorem lkX4_103 : Cond.methodLink RX4 103 yX4_passes ∈ zTb := zTb_mem2 810 (by decide +kernel) rfl
theorem lkX4_97 : Cond.methodLink RX4 97 yX4_loses ∈ zTb := zTb_mem2 814 (by decide +kernel) rfl
theorem lkX4_107 : Cond.methodLink RX4 107 yX4_holesIn ∈ zTb := zTb_mem2 817 (by decide +kernel) rfl
theorem lkX4_110 : Cond.methodLink RX4 110 yX4_ones ∈ zTb := zTb_mem2 821 (by decide +kernel) rfl
theorem lkL_40 : Cond.methodLink RL 40 yX4_undo ∈ zTb := zTb_mem2 824 (by decide +kernel) rfl
theorem lkL_44 : Cond.methodLink RL 44 yX4_type ∈ zTb := zTb_mem2 828 (by decide +kernel) rfl
theorem lkL_48 : Cond.methodLink RL 48 yX4_clear ∈ zTb := zTb_mem2 833 (by decide +kernel) rfl
theorem lkL_52 : Cond.methodLink RL 52 yX4_read ∈ zTb := zTb_mem2 837 (by decide +kernel) rfl
theorem lkX4_146 : Cond.methodLink RX4 146 yX4_token ∈ zTb := zTb_mem2 841 (by decide +kernel) rfl
theorem lkX4_122 : Cond.methodLink RX4 122 yX4_byteAt ∈ zTb := zTb_mem2 845 (by decide +kernel) rfl
theorem lkX4_161 : Cond.methodLink RX4 161 yX4_takesItem ∈ zTb := zTb_mem2 853 (by decide +kernel) rfl
theorem lkX4_149 : Cond.methodLink RX4 149 yX4_wordNow ∈ zTb := zTb_mem2 857 (by decide +kernel) rfl
theorem lkX4_143 : Cond.methodLink RX4 143 yX4_isNamed ∈ zTb := zTb_mem2 861 (by decide +kernel) rfl
theorem lkX4_152 : Cond.methodLink RX4 152 yX4_takesNumber ∈ zTb := zTb_mem2 865 (by decide +kernel) rfl
theorem lkX4_158 : Cond.methodLink RX4 158 yX4_tellsItem ∈ zTb := zTb_mem2 869 (by decide +kernel) rfl
theorem lkL_57 : Cond.methodLink RL 57 yX4_of ∈ zTb := zTb_mem2 873 (by decide +kernel) rfl
theorem lkX4_164 : Cond.methodLink RX4 164 yX4_countsOf ∈ zTb := zTb_mem2 877 (by decide +kernel) rfl
theorem lkL_61 : Cond.methodLink RL 61 yX4_cell ∈ zTb := zTb_mem2 881 (by decide +kernel) rfl
theorem lkL_65 : Cond.methodLink RL 65 yX4_claims ∈ zTb := zTb_mem2 885 (by decide +kernel) rfl
theorem lkX4_178 : Cond.methodLink RX4 178 yX4_isFamily ∈ zTb := zTb_mem2 889 (by decide +kernel) rfl
theorem lkX4_181 : Cond.methodLink RX4 181 yX4_isLaw ∈ zTb := zTb_mem2 892 (by decide +kernel) rfl
theorem lkX4_173 : Cond.methodLink RX4 173 yX4_claimsIn ∈ zTb := zTb_mem2 896 (by decide +kernel) rfl
theorem lkX4_170 : Cond.methodLink RX4 170 yX4_linesOf ∈ zTb := zTb_mem2 900 (by decide +kernel) rfl
theorem lkX4_167 : Cond.methodLink RX4 167 yX4_familyAt ∈ zTb := zTb_mem2 904 (by decide +kernel) rfl
theorem lkL_69 : Cond.methodLink RL 69 yX4_owner ∈ zTb := zTb_mem2 908 (by decide +kernel) rfl
theorem lkX4_189 : Cond.methodLink RX4 189 yX4_passesMany ∈ zTb := zTb_mem2 913 (by decide +kernel) rfl
theorem lkX4_184 : Cond.methodLink RX4 184 yX4_tries ∈ zTb := zTb_mem2 917 (by decide +kernel) rfl
theorem lkX4_193 : Cond.methodLink RX4 193 yX4_ownerIn ∈ zTb := zTb_mem2 921 (by decide +kernel) rfl
theorem lkL_73 : Cond.methodLink RL 73 yX4_laws ∈ zTb := zTb_mem2 925 (by decide +kernel) rfl
theorem lkL_77 : Cond.methodLink RL 77 yX4_share ∈ zTb := zTb_mem2 929 (by decide +kernel) rfl
theorem lkX4_199 : Cond.methodLink RX4 199 yX4_allClaims ∈ zTb := zTb_mem2 933 (by decide +kernel) rfl
theorem lkX4_202 : Cond.methodLink RX4 202 yX4_tells ∈ zTb := zTb_mem2 937 (by decide +kernel) rfl
theorem lkL_81 : Cond.methodLink RL 81 yX4_twos ∈ zTb := zTb_mem2 941 (by decide +kernel) rfl
theorem lkL_85 : Cond.methodLink RL 85 yX4_whole ∈ zTb := zTb_mem2 945 (by decide +kernel) rfl
theorem lkX4_209 : Cond.methodLink RX4 209 yX4_wholeTried ∈ zTb := zTb_mem2 949 (by decide +kernel) rfl
theorem lkX4_206 : Cond.methodLink RX4 206 yX4_lastsOf ∈ zTb := zTb_mem2 953 (by decide +kernel) rfl
theorem lkL_89 : Cond.methodLink RL 89 yX4_holes ∈ zTb := zTb_mem2 957 (by decide +kernel) rfl
theorem lkL_93 : Cond.methodLink RL 93 yX4_best ∈ zTb := zTb_mem2 961 (by decide +kernel) rfl
theorem lkX4_212 : Cond.methodLink RX4 212 yX4_isThread ∈ zTb := zTb_mem2 965 (by decide +kernel) rfl
theorem lkL_97 : Cond.methodLink RL 97 yX4_split ∈ zTb := zTb_mem2 968 (by decide +kernel) rfl
theorem lkX4_215 : Cond.methodLink RX4 215 yX4_layLasting ∈ zTb := zTb_mem2 972 (by decide +kernel) rfl
theorem lkL_101 : Cond.methodLink RL 101 yX4_reading ∈ zTb := zTb_mem2 976 (by decide +kernel) rfl
theorem lkL_105 : Cond.methodLink RL 105 yX4_forget ∈ zTb := zTb_mem2 980 (by decide +kernel) rfl
theorem lkL_109 : Cond.methodLink RL 109 yX4_may ∈ zTb := zTb_mem2 984 (by decide +kernel) rfl
theorem lkX4_221 : Cond.methodLink RX4 221 yX4_kindsOf ∈ zTb := zTb_mem2 988 (by decide +kernel) rfl
theorem lkX4_218 : Cond.methodLink RX4 218 yX4_leftOf ∈ zTb := zTb_mem2 992 (by decide +kernel) rfl
theorem lkL_113 : Cond.methodLink RL 113 yX4_look ∈ zTb := zTb_mem2 996 (by decide +kernel) rfl
theorem lkX4_224 : Cond.methodLink RX4 224 yX4_has ∈ zTb := zTb_mem2 1000 (by decide +kernel) rfl
theorem lkL_117 : Cond.methodLink RL 117 yX4_orders ∈ zTb := zTb_mem2 1003 (by decide +kernel) rfl
theorem lkX4_236 : Cond.methodLink RX4 236 yX4_badAs ∈ zTb := zTb_mem2 1008 (by decide +kernel) rfl
theorem lkX4_239 : Cond.methodLink RX4 239 yX4_canCome ∈ zTb := zTb_mem2 1012 (by decide +kernel) rfl
theorem lkX4_231 : Cond.methodLink RX4 231 yX4_yearOf ∈ zTb := zTb_mem2 1016 (by decide +kernel) rfl
theorem lkL_121 : Cond.methodLink RL 121 yX4_odds ∈ zTb := zTb_mem2 1020 (by decide +kernel) rfl
theorem lkL_125 : Cond.methodLink RL 125 yX4_drawn ∈ zTb := zTb_mem2 1025 (by decide +kernel) rfl
theorem lkL_130 : Cond.methodLink RL 130 yX4_part ∈ zTb := zTb_mem2 1035 (by decide +kernel) rfl
theorem lkL_134 : Cond.methodLink RL 134 yX4_image ∈ zTb := zTb_mem2 1039 (by decide +kernel) rfl
theorem lkL_138 : Cond.methodLink RL 138 yX4_from ∈ zTb := zTb_mem2 1043 (by decide +kernel) rfl
theorem lkL_142 : Cond.methodLink RL 142 yX4_status ∈ zTb := zTb_mem2 1047 (by decide +kernel) rfl
theorem lkL_146 : Cond.methodLink RL 146 yX4_count ∈ zTb := zTb_mem2 1051 (by decide +kernel) rfl
theorem lkX4_256 : Cond.methodLink RX4 256 yX4_countOf ∈ zTb := zTb_mem2 1055 (by decide +kernel) rfl
theorem lkL_151 : Cond.methodLink RL 151 yX4_digest ∈ zTb := zTb_mem2 1059 (by decide +kernel) rfl
theorem lkX4_266 : Cond.methodLink RX4 266 yX4_mix ∈ zTb := zTb_mem2 1064 (by decide +kernel) rfl
theorem nlX3_11 : (RX3, 11, yX1_init, RX3) ∈ zNm := by decide +kernel
theorem nlX3_29 : (RX3, 29, yX2_init, RX3) ∈ zNm := by decide +kernel
theorem nlX0_27 : (RX0, 27, yX3_within, RX3) ∈ zNm := by decide +kernel
theorem nlX0_46 : (RX0, 46, yX3_between, RX3) ∈ zNm := by decide +kernel
theorem nlX0_65 : (RX0, 65, yX3_loss, RX3) ∈ zNm := by decide +kernel
theorem nlX2_73 : (RX2, 73, yX3_between, RX3) ∈ zNm := by decide +kernel
theorem nlX2_44 : (RX2, 44, yX3_within, RX3) ∈ zNm := by decide +kernel
theorem nlX2_87 : (RX2, 87, yX3_wearsAsTold, RX3) ∈ zNm := by decide +kernel
theorem nlX0_108 : (RX0, 108, yX3_powerOfTen, RX3) ∈ zNm := by decide +kernel
theorem nsX2_70 : (RX2, 70, RX3, zSt 2, "[I", RX3) ∈ zNf := by decide +kernel
theorem nsX2_48 : (RX2, 48, RX3, zSt 3, "[I", RX3) ∈ zNf := by decide +kernel
theorem nsX0_92 : (RX0, 92, RX3, zSt 1, "[I", RX3) ∈ zNf := by decide +kernel
theorem zin0 : ∀ w ∈ u_ws RX0 TX0 3, w ∈ zTb := fun w h => zTb_mem (inX0 w h) (List.all_eq_true.mp (show (u_ws RX0 TX0 3).all goodWord = true from by decide +kernel) w h)
theorem zin1 : ∀ w ∈ u_ws RX1 TX1 6, w ∈ zTb := fun w h => zTb_mem (inX1 w h) (List.all_eq_true.mp (show (u_ws RX1 TX1 6).all goodWord = true from by decide +kernel) w h)
theorem zin2 : ∀ w ∈ u_ws RX2 TX2 9, w ∈ zTb := fun w h => zTb_mem (inX2 w h) (List.all_eq_true.mp (show (u_ws RX2 TX2 9).all goodWord = true from by decide +kernel) w h)
theorem zin3 : ∀ w ∈ u_ws RX3 TX3 13, w ∈ zTb := fun w h => zTb_mem (inX3 w h) (List.all_eq_true.mp (show (u_ws RX3 TX3 13).all goodWord = true from by decide +kernel) w h)
theorem zin4 : ∀ w ∈ u_ws RX4 TX4 18, w ∈ zTb := fun w h => zTb_mem (inX4 w h) (List.all_eq_true.mp (show (u_ws RX4 TX4 18).all goodWord = true from by decide +kernel) w h)
theorem flX0_9 : zFld RX0 9 0 0 (.array .int) 1 := ⟨RX0, TX0, 3, tyX0, rfl, (by decide), zin0, tyX0_ok, nmX0, zTb_mem2 94 (by decide +kernel) rfl, (by decide +kernel), rfl, (fun _ => rfl)⟩
theorem flX3_76 : zFld RX3 76 0 0 (.array .int) 2 := ⟨RX0, TX0, 3, tyX0, rfl, (by decide), zin0, tyX0_ok, nmX0, zTb_mem2 95 (by decide +kernel) rfl, (by decide +kernel), rfl, (fun h => by cases h)⟩
theorem flX2_90 : zFld RX2 90 0 0 (.array .int) 2 := ⟨RX0, TX0, 3, tyX0, rfl, (by decide), zin0, tyX0_ok, nmX0, zTb_mem2 96 (by decide +kernel) rfl, (by decide +kernel), rfl, (fun h => by cases h)⟩
theorem flX0_15 : zFld RX0 15 0 1 (.array .int) 1 := ⟨RX0, TX0, 3, tyX0, rfl, (by decide), zin0, tyX0_ok, nmX0, zTb_mem2 97 (by decide +kernel) rfl, (by decide +kernel), rfl, (fun _ => rfl)⟩
theorem flX1_49 : zFld RX1 49 0 1 (.array .int) 2 := ⟨RX0, TX0, 3, tyX0, rfl, (by decide), zin0, tyX0_ok, nmX0, zTb_mem2 98 (by decide +kernel) rfl, (by decide +kernel), rfl, (fun h => by cases h)⟩
theorem flX0_18 : zFld RX0 18 0 2 (.array .int) 1 := ⟨RX0, TX0, 3, tyX0, rfl, (by decide), zin0, tyX0_ok, nmX0, zTb_mem2 99 (by decide +kernel) rfl, (by decide +kernel), rfl, (fun _ => rfl)⟩
theorem flX1_12 : zFld RX1 12 1 0 (.object "DarnedSock$Sock") 1 := ⟨RX1, TX1, 6, tyX1, rfl, (by decide), zin1, tyX1_ok, nmX1, zTb_mem2 108 (by decide +kernel) rfl, (by decide +kernel), rfl, (fun _ => rfl)⟩
theorem flX3_62 : zFld RX3 62 1 0 (.object "DarnedSock$Sock") 2 := ⟨RX1, TX1, 6, tyX1, rfl, (by decide), zin1, tyX1_ok, nmX1, zTb_mem2 109 (by decide +kernel) rfl, (by decide +kernel), rfl, (fun h => by cases h)⟩
theorem flX1_18 : zFld RX1 18 1 1 (.array .int) 1 := ⟨RX1, TX1, 6, tyX1, rfl, (by decide), zin1, tyX1_ok, nmX1, zTb_mem2 110 (by decide +kernel) rfl, (by decide +kernel), rfl, (fun _ => rfl)⟩
theorem flX1_29 : zFld RX1 29 1 2 .int 0 := ⟨RX1, TX1, 6, tyX1, rfl, (by decide), zin1, tyX1_ok, nmX1, zTb_mem2 111 (by decide +kernel) rfl, (by decide +kernel), rfl, (fun h => by cases h)⟩
theorem flX3_202 : zFld RX3 202 1 2 .int 0 := ⟨RX1, TX1, 6, tyX1, rfl, (by decide), zin1, tyX1_ok, nmX1, zTb_mem2 112 (by decide +kernel) rfl, (by decide +kernel), rfl, (fun h => by cases h)⟩
theorem flX1_22 : zFld RX1 22 1 3 (.array .int) 1 := ⟨RX1, TX1, 6, tyX1, rfl, (by decide), zin1, tyX1_ok, nmX1, zTb_mem2 113 (by decide +kernel) rfl, (by decide +kernel), rfl, (fun _ => rfl)⟩
theorem flX1_46 : zFld RX1 46 1 4 .int 0 := ⟨RX1, TX1, 6, tyX1, rfl, (by decide), zin1, tyX1_ok, nmX1, zTb_mem2 114 (by decide +kernel) rfl, (by decide +kernel), rfl, (fun h => by cases h)⟩
theorem flX1_33 : zFld RX1 33 1 5 .int 0 := ⟨RX1, TX1, 6, tyX1, rfl, (by decide), zin1, tyX1_ok, nmX1, zTb_mem2 115 (by decide +kernel) rfl, (by decide +kernel), rfl, (fun h => by cases h)⟩
theorem flX3_111 : zFld RX3 111 1 5 .int 0 := ⟨RX1, TX1, 6, tyX1, rfl, (by decide), zin1, tyX1_ok, nmX1, zTb_mem2 116 (by decide +kernel) rfl, (by decide +kernel), rfl, (fun h => by cases h)⟩
theorem flX2_9 : zFld RX2 9 2 0 (.array .int) 1 := ⟨RX2, TX2, 9, tyX2, rfl, (by decide), zin2, tyX2_ok, nmX2, zTb_mem2 139 (by decide +kernel) rfl, (by decide +kernel), rfl, (fun _ => rfl)⟩
theorem flX3_121 : zFld RX3 121 2 0 (.array .int) 2 := ⟨RX2, TX2, 9, tyX2, rfl, (by decide), zin2, tyX2_ok, nmX2, zTb_mem2 140 (by decide +kernel) rfl, (by decide +kernel), rfl, (fun h => by cases h)⟩
theorem flX2_51 : zFld RX2 51 2 1 .int 0 := ⟨RX2, TX2, 9, tyX2, rfl, (by decide), zin2, tyX2_ok, nmX2, zTb_mem2 141 (by decide +kernel) rfl, (by decide +kernel), rfl, (fun h => by cases h)⟩
theorem flX3_118 : zFld RX3 118 2 1 .int 0 := ⟨RX2, TX2, 9, tyX2, rfl, (by decide), zin2, tyX2_ok, nmX2, zTb_mem2 142 (by decide +kernel) rfl, (by decide +kernel), rfl, (fun h => by cases h)⟩
theorem flX2_15 : zFld RX2 15 2 2 (.array .int) 1 := ⟨RX2, TX2, 9, tyX2, rfl, (by decide), zin2, tyX2_ok, nmX2, zTb_mem2 143 (by decide +kernel) rfl, (by decide +kernel), rfl, (fun _ => rfl)⟩
theorem flX2_18 : zFld RX2 18 2 3 (.array .int) 1 := ⟨RX2, TX2, 9, tyX2, rfl, (by decide), zin2, tyX2_ok, nmX2, zTb_mem2 144 (by decide +kernel) rfl, (by decide +kernel), rfl, (fun _ => rfl)⟩
theorem flX2_21 : zFld RX2 21 2 4 .int 0 := ⟨RX2, TX2, 9, tyX2, rfl, (by decide), zin2, tyX2_ok, nmX2, zTb_mem2 145 (by decide +kernel) rfl, (by decide +kernel), rfl, (fun h => by cases h)⟩
theorem flX3_135 : zFld RX3 135 2 4 .int 0 := ⟨RX2, TX2, 9, tyX2, rfl, (by decide), zin2, tyX2_ok, nmX2, zTb_mem2 146 (by decide +kernel) rfl, (by decide +kernel), rfl, (fun h => by cases h)⟩
theorem flX2_38 : zFld RX2 38 2 5 .int 0 := ⟨RX2, TX2, 9, tyX2, rfl, (by decide), zin2, tyX2_ok, nmX2, zTb_mem2 147 (by decide +kernel) rfl, (by decide +kernel), rfl, (fun h => by cases h)⟩
theorem flX2_35 : zFld RX2 35 2 6 .int 0 := ⟨RX2, TX2, 9, tyX2, rfl, (by decide), zin2, tyX2_ok, nmX2, zTb_mem2 148 (by decide +kernel) rfl, (by decide +kernel), rfl, (fun h => by cases h)⟩
theorem flX2_25 : zFld RX2 25 2 7 .int 0 := ⟨RX2, TX2, 9, tyX2, rfl, (by decide), zin2, tyX2_ok, nmX2, zTb_mem2 149 (by decide +kernel) rfl, (by decide +kernel), rfl, (fun h => by cases h)⟩
theorem flX2_41 : zFld RX2 41 2 8 .int 0 := ⟨RX2, TX2, 9, tyX2, rfl, (by decide), zin2, tyX2_ok, nmX2, zTb_mem2 150 (by decide +kernel) rfl, (by decide +kernel), rfl, (fun h => by cases h)⟩
theorem flX3_12 : zFld RX3 12 3 0 (.object "DarnedSock$State") 1 := ⟨RX3, TX3, 13, tyX3, rfl, (by decide), zin3, tyX3_ok, nmX3, zTb_mem2 170 (by decide +kernel) rfl, (by decide +kernel), rfl, (fun _ => rfl)⟩
theorem flX3_16 : zFld RX3 16 3 1 (.array (.object "DarnedSock$State")) 1 := ⟨RX3, TX3, 13, tyX3, rfl, (by decide), zin3, tyX3_ok, nmX3, zTb_mem2 171 (by decide +kernel) rfl, (by decide +kernel), rfl, (fun _ => rfl)⟩
theorem flX3_23 : zFld RX3 23 3 2 (.object "DarnedSock$Sock") 1 := ⟨RX3, TX3, 13, tyX3, rfl, (by decide), zin3, tyX3_ok, nmX3, zTb_mem2 172 (by decide +kernel) rfl, (by decide +kernel), rfl, (fun _ => rfl)⟩
theorem flX3_30 : zFld RX3 30 3 3 (.object "DarnedSock$Text") 1 := ⟨RX3, TX3, 13, tyX3, rfl, (by decide), zin3, tyX3_ok, nmX3, zTb_mem2 173 (by decide +kernel) rfl, (by decide +kernel), rfl, (fun _ => rfl)⟩
theorem flX3_34 : zFld RX3 34 3 4 (.array .int) 1 := ⟨RX3, TX3, 13, tyX3, rfl, (by decide), zin3, tyX3_ok, nmX3, zTb_mem2 174 (by decide +kernel) rfl, (by decide +kernel), rfl, (fun _ => rfl)⟩
theorem flX3_38 : zFld RX3 38 3 5 (.array .int) 1 := ⟨RX3, TX3, 13, tyX3, rfl, (by decide), zin3, tyX3_ok, nmX3, zTb_mem2 175 (by decide +kernel) rfl, (by decide +kernel), rfl, (fun _ => rfl)⟩
theorem flX3_41 : zFld RX3 41 3 6 (.array .int) 1 := ⟨RX3, TX3, 13, tyX3, rfl, (by decide), zin3, tyX3_ok, nmX3, zTb_mem2 176 (by decide +kernel) rfl, (by decide +kernel), rfl, (fun _ => rfl)⟩
theorem flX3_44 : zFld RX3 44 3 7 (.array .int) 1 := ⟨RX3, TX3, 13, tyX3, rfl, (by decide), zin3, tyX3_ok, nmX3, zTb_mem2 177 (by decide +kernel) rfl, (by decide +kernel), rfl, (fun _ => rfl)⟩
theorem flX3_47 : zFld RX3 47 3 8 .long 0 := ⟨RX3, TX3, 13, tyX3, rfl, (by decide), zin3, tyX3_ok, nmX3, zTb_mem2 178 (by decide +kernel) rfl, (by decide +kernel), rfl, (fun h => by cases h)⟩
theorem flX3_51 : zFld RX3 51 3 9 .long 0 := ⟨RX3, TX3, 13, tyX3, rfl, (by decide), zin3, tyX3_ok, nmX3, zTb_mem2 179 (by decide +kernel) rfl, (by decide +kernel), rfl, (fun h => by cases h)⟩
theorem flX3_245 : zFld RX3 245 3 10 .int 0 := ⟨RX3, TX3, 13, tyX3, rfl, (by decide), zin3, tyX3_ok, nmX3, zTb_mem2 180 (by decide +kernel) rfl, (by decide +kernel), rfl, (fun h => by cases h)⟩
theorem flX3_248 : zFld RX3 248 3 11 .int 0 := ⟨RX3, TX3, 13, tyX3, rfl, (by decide), zin3, tyX3_ok, nmX3, zTb_mem2 181 (by decide +kernel) rfl, (by decide +kernel), rfl, (fun h => by cases h)⟩
theorem flX3_251 : zFld RX3 251 3 12 .int 0 := ⟨RX3, TX3, 13, tyX3, rfl, (by decide), zin3, tyX3_ok, nmX3, zTb_mem2 182 (by decide +kernel) rfl, (by decide +kernel), rfl, (fun h => by cases h)⟩
theorem flX4_7 : zFld RX4 7 4 0 (.array .int) 1 := ⟨RX4, TX4, 18, tyX4, rfl, (by decide), zin4, tyX4_ok, nmX4, zTb_mem2 684 (by decide +kernel) rfl, (by decide +kernel), rfl, (fun _ => rfl)⟩
theorem flX4_13 : zFld RX4 13 4 1 (.array .boolean) 1 := ⟨RX4, TX4, 18, tyX4, rfl, (by decide), zin4, tyX4_ok, nmX4, zTb_mem2 685 (by decide +kernel) rfl, (by decide +kernel), rfl, (fun _ => rfl)⟩
theorem flX4_17 : zFld RX4 17 4 2 (.array .int) 1 := ⟨RX4, TX4, 18, tyX4, rfl, (by decide), zin4, tyX4_ok, nmX4, zTb_mem2 686 (by decide +kernel) rfl, (by decide +kernel), rfl, (fun _ => rfl)⟩
theorem flX4_115 : zFld RX4 115 4 3 .int 0 := ⟨RX4, TX4, 18, tyX4, rfl, (by decide), zin4, tyX4_ok, nmX4, zTb_mem2 687 (by decide +kernel) rfl, (by decide +kernel), rfl, (fun h => by cases h)⟩
theorem flX4_20 : zFld RX4 20 4 4 (.array .int) 1 := ⟨RX4, TX4, 18, tyX4, rfl, (by decide), zin4, tyX4_ok, nmX4, zTb_mem2 688 (by decide +kernel) rfl, (by decide +kernel), rfl, (fun _ => rfl)⟩
theorem flX4_196 : zFld RX4 196 4 5 .long 0 := ⟨RX4, TX4, 18, tyX4, rfl, (by decide), zin4, tyX4_ok, nmX4, zTb_mem2 689 (by decide +kernel) rfl, (by decide +kernel), rfl, (fun h => by cases h)⟩
theorem flX4_23 : zFld RX4 23 4 6 .long 0 := ⟨RX4, TX4, 18, tyX4, rfl, (by decide), zin4, tyX4_ok, nmX4, zTb_mem2 690 (by decide +kernel) rfl, (by decide +kernel), rfl, (fun h => by cases h)⟩
theorem flX4_119 : zFld RX4 119 4 7 .int 0 := ⟨RX4, TX4, 18, tyX4, rfl, (by decide), zin4, tyX4_ok, nmX4, zTb_mem2 691 (by decide +kernel) rfl, (by decide +kernel), rfl, (fun h => by cases h)⟩
theorem flX4_125 : zFld RX4 125 4 8 .int 0 := ⟨RX4, TX4, 18, tyX4, rfl, (by decide), zin4, tyX4_ok, nmX4, zTb_mem2 692 (by decide +kernel) rfl, (by decide +kernel), rfl, (fun h => by cases h)⟩
theorem flX4_132 : zFld RX4 132 4 9 .boolean 0 := ⟨RX4, TX4, 18, tyX4, rfl, (by decide), zin4, tyX4_ok, nmX4, zTb_mem2 693 (by decide +kernel) rfl, (by decide +kernel), rfl, (fun h => by cases h)⟩
theorem flX4_140 : zFld RX4 140 4 10 .boolean 0 := ⟨RX4, TX4, 18, tyX4, rfl, (by decide), zin4, tyX4_ok, nmX4, zTb_mem2 694 (by decide +kernel) rfl, (by decide +kernel), rfl, (fun h => by cases h)⟩
theorem flX4_27 : zFld RX4 27 4 11 (.array .int) 1 := ⟨RX4, TX4, 18, tyX4, rfl, (by decide), zin4, tyX4_ok, nmX4, zTb_mem2 695 (by decide +kernel) rfl, (by decide +kernel), rfl, (fun _ => rfl)⟩
theorem flX4_155 : zFld RX4 155 4 12 .int 0 := ⟨RX4, TX4, 18, tyX4, rfl, (by decide), zin4, tyX4_ok, nmX4, zTb_mem2 696 (by decide +kernel) rfl, (by decide +kernel), rfl, (fun h => by cases h)⟩
theorem flX4_30 : zFld RX4 30 4 13 (.array .int) 1 := ⟨RX4, TX4, 18, tyX4, rfl, (by decide), zin4, tyX4_ok, nmX4, zTb_mem2 697 (by decide +kernel) rfl, (by decide +kernel), rfl, (fun _ => rfl)⟩
theorem flX4_33 : zFld RX4 33 4 14 (.array .int) 1 := ⟨RX4, TX4, 18, tyX4, rfl, (by decide), zin4, tyX4_ok, nmX4, zTb_mem2 698 (by decide +kernel) rfl, (by decide +kernel), rfl, (fun _ => rfl)⟩
theorem flX4_228 : zFld RX4 228 4 15 .int 0 := ⟨RX4, TX4, 18, tyX4, rfl, (by decide), zin4, tyX4_ok, nmX4, zTb_mem2 699 (by decide +kernel) rfl, (by decide +kernel), rfl, (fun h => by cases h)⟩
theorem flX4_36 : zFld RX4 36 4 16 (.array .int) 1 := ⟨RX4, TX4, 18, tyX4, rfl, (by decide), zin4, tyX4_ok, nmX4, zTb_mem2 700 (by decide +kernel) rfl, (by decide +kernel), rfl, (fun _ => rfl)⟩
theorem flX4_261 : zFld RX4 261 4 17 .long 0 := ⟨RX4, TX4, 18, tyX4, rfl, (by decide), zin4, tyX4_ok, nmX4, zTb_mem2 701 (by decide +kernel) rfl, (by decide +kernel), rfl, (fun h => by cases h)⟩
theorem clL_7 : zCls RL 7 3 13 [.null, .null, .null, .null, .null, .null, .null, .null, .long 0, .long 0, .int 0, .int 0, .int 0] := ⟨RX3, TX3, tyX3, rfl, zin3, tyX3_ok, zTb_mem2 74 (by decide +kernel) rfl, zTb_mem2 75 (by decide +kernel) rfl, zTb_mem2 66 (by decide +kernel) rfl, by decide +kernel⟩
theorem ckL_7 : Cond.classLink RL 7 RX3 ∈ zTb := zTb_mem2 74 (by decide +kernel) rfl
theorem clX3_9 : zCls RX3 9 1 6 [.null, .null, .int 0, .null, .int 0, .int 0] := ⟨RX1, TX1, tyX1, rfl, zin1, tyX1_ok, zTb_mem2 82 (by decide +kernel) rfl, zTb_mem2 83 (by decide +kernel) rfl, zTb_mem2 67 (by decide +kernel) rfl, by decide +kernel⟩
theorem ckX3_9 : Cond.classLink RX3 9 RX1 ∈ zTb := zTb_mem2 82 (by decide +kernel) rfl
theorem clX1_9 : zCls RX1 9 0 3 [.null, .null, .null] := ⟨RX0, TX0, tyX0, rfl, zin0, tyX0_ok, zTb_mem2 88 (by decide +kernel) rfl, zTb_mem2 89 (by decide +kernel) rfl, zTb_mem2 68 (by decide +kernel) rfl, by decide +kernel⟩
theorem ckX1_9 : Cond.classLink RX1 9 RX0 ∈ zTb := zTb_mem2 88 (by decide +kernel) rfl
theorem clX3_20 : zCls RX3 20 0 3 [.null, .null, .null] := ⟨RX0, TX0, tyX0, rfl, zin0, tyX0_ok, zTb_mem2 131 (by decide +kernel) rfl, zTb_mem2 89 (by decide +kernel) rfl, zTb_mem2 68 (by decide +kernel) rfl, by decide +kernel⟩
theorem ckX3_20 : Cond.classLink RX3 20 RX0 ∈ zTb := zTb_mem2 131 (by decide +kernel) rfl
theorem clX3_27 : zCls RX3 27 2 9 [.null, .int 0, .null, .null, .int 0, .int 0, .int 0, .int 0, .int 0] := ⟨RX2, TX2, tyX2, rfl, zin2, tyX2_ok, zTb_mem2 133 (by decide +kernel) rfl, zTb_mem2 134 (by decide +kernel) rfl, zTb_mem2 69 (by decide +kernel) rfl, by decide +kernel⟩
theorem ckX3_27 : Cond.classLink RX3 27 RX2 ∈ zTb := zTb_mem2 133 (by decide +kernel) rfl
theorem clL_10 : zCls RL 10 4 18 [.null, .null, .null, .int 0, .null, .long 0, .long 0, .int 0, .int 0, .int 0, .int 0, .null, .int 0, .null, .null, .int 0, .null, .long 0] := ⟨RX4, TX4, tyX4, rfl, zin4, tyX4_ok, zTb_mem2 674 (by decide +kernel) rfl, zTb_mem2 675 (by decide +kernel) rfl, zTb_mem2 70 (by decide +kernel) rfl, by decide +kernel⟩
theorem ckL_10 : Cond.classLink RL 10 RX4 ∈ zTb := zTb_mem2 674 (by decide +kernel) rfl
theorem kcJ6_265 : Cond.constant RJ6 265 (1431655765) ∈ zTb := zTb_mem2 323 (by decide +kernel) rfl
theorem kcJ6_266 : Cond.constant RJ6 266 (858993459) ∈ zTb := zTb_mem2 324 (by decide +kernel) rfl
theorem kcJ6_267 : Cond.constant RJ6 267 (252645135) ∈ zTb := zTb_mem2 325 (by decide +kernel) rfl
theorem kcX3_231 : Cond.constant RX3 231 (999999) ∈ zTb := zTb_mem2 623 (by decide +kernel) rfl
theorem klX3_272 : Cond.constantLong RX3 272 (10) ∈ zTb := zTb_mem2 617 (by decide +kernel) rfl
theorem klX3_232 : Cond.constantLong RX3 232 (1103515245) ∈ zTb := zTb_mem2 624 (by decide +kernel) rfl
theorem klX3_234 : Cond.constantLong RX3 234 (12345) ∈ zTb := zTb_mem2 625 (by decide +kernel) rfl
theorem klX3_236 : Cond.constantLong RX3 236 (2147483648) ∈ zTb := zTb_mem2 626 (by decide +kernel) rfl
theorem klX3_238 : Cond.constantLong RX3 238 (65536) ∈ zTb := zTb_mem2 627 (by decide +kernel) rfl
theorem klX3_240 : Cond.constantLong RX3 240 (6) ∈ zTb := zTb_mem2 628 (by decide +kernel) rfl
theorem klX3_257 : Cond.constantLong RX3 257 (1061) ∈ zTb := zTb_mem2 662 (by decide +kernel) rfl
theorem klX3_259 : Cond.constantLong RX3 259 (31) ∈ zTb := zTb_mem2 663 (by decide +kernel) rfl
theorem klX0_112 : Cond.constantLong RX0 112 (31) ∈ zTb := zTb_mem2 668 (by decide +kernel) rfl
theorem klX1_70 : Cond.constantLong RX1 70 (31) ∈ zTb := zTb_mem2 673 (by decide +kernel) rfl
theorem klX4_63 : Cond.constantLong RX4 63 (99) ∈ zTb := zTb_mem2 744 (by decide +kernel) rfl
theorem klX4_43 : Cond.constantLong RX4 43 (8) ∈ zTb := zTb_mem2 763 (by decide +kernel) rfl
theorem klX4_53 : Cond.constantLong RX4 53 (5) ∈ zTb := zTb_mem2 764 (by decide +kernel) rfl
theorem klX4_55 : Cond.constantLong RX4 55 (2) ∈ zTb := zTb_mem2 772 (by decide +kernel) rfl
theorem klX4_57 : Cond.constantLong RX4 57 (30) ∈ zTb := zTb_mem2 773 (by decide +kernel) rfl
theorem klX4_101 : Cond.constantLong RX4 101 (20) ∈ zTb := zTb_mem2 809 (by decide +kernel) rfl
theorem klX4_113 : Cond.constantLong RX4 113 (127) ∈ zTb := zTb_mem2 832 (by decide +kernel) rfl
theorem klX4_128 : Cond.constantLong RX4 128 (97) ∈ zTb := zTb_mem2 849 (by decide +kernel) rfl
theorem klX4_130 : Cond.constantLong RX4 130 (122) ∈ zTb := zTb_mem2 850 (by decide +kernel) rfl
theorem klX4_136 : Cond.constantLong RX4 136 (48) ∈ zTb := zTb_mem2 851 (by decide +kernel) rfl
theorem klX4_138 : Cond.constantLong RX4 138 (57) ∈ zTb := zTb_mem2 852 (by decide +kernel) rfl
theorem klX4_176 : Cond.constantLong RX4 176 (3) ∈ zTb := zTb_mem2 895 (by decide +kernel) rfl
theorem klX4_187 : Cond.constantLong RX4 187 (40) ∈ zTb := zTb_mem2 912 (by decide +kernel) rfl
theorem klX4_234 : Cond.constantLong RX4 234 (511) ∈ zTb := zTb_mem2 1007 (by decide +kernel) rfl
theorem klX4_242 : Cond.constantLong RX4 242 (10) ∈ zTb := zTb_mem2 1024 (by decide +kernel) rfl
theorem klX4_244 : Cond.constantLong RX4 244 (999999) ∈ zTb := zTb_mem2 1029 (by decide +kernel) rfl
theorem klX4_246 : Cond.constantLong RX4 246 (1103515245) ∈ zTb := zTb_mem2 1030 (by decide +kernel) rfl
theorem klX4_248 : Cond.constantLong RX4 248 (12345) ∈ zTb := zTb_mem2 1031 (by decide +kernel) rfl
theorem klX4_250 : Cond.constantLong RX4 250 (2147483648) ∈ zTb := zTb_mem2 1032 (by decide +kernel) rfl
theorem klX4_252 : Cond.constantLong RX4 252 (65536) ∈ zTb := zTb_mem2 1033 (by decide +kernel) rfl
theorem klX4_254 : Cond.constantLong RX4 254 (6) ∈ zTb := zTb_mem2 1034 (by decide +kernel) rfl
theorem klX4_264 : Cond.constantLong RX4 264 (1061) ∈ zTb := zTb_mem2 1063 (by decide +kernel) rfl
theorem klX4_259 : Cond.constantLong RX4 259 (31) ∈ zTb := zTb_mem2 1068 (by decide +kernel) rfl
theorem ka_int : Cond.arrayClass .int ∈ zTb := zTb_mem2 107 (by decide +kernel) rfl
theorem ka_boolean : Cond.arrayClass .boolean ∈ zTb := zTb_mem2 739 (by decide +kernel) rfl
theorem ko_i : Cond.instanceMethod Lib.objectInit ∈ zTb := zTb_mem2 80 (by decide +kernel) rfl
theorem ko_c : Cond.code Lib.objectInit ⟨#[0xb1]⟩ 1 none ∈ zTb := zTb_mem2 81 (by decide +kernel) rfl
theorem kp_n : Cond.native arraycopyName ∈ zTb := zTb_mem2 271 (by decide +kernel) rfl
theorem kp_s : Cond.static arraycopyName ∈ zTb := zTb_mem2 270 (by decide +kernel) rfl
theorem kp_i : Cond.initialized "java/lang/System" ∈ zTb := zTb_mem2 71 (by decide +kernel) rfl
