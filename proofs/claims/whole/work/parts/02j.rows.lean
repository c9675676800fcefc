theorem dX8_digest_293 : decode cX8_digest 293 = .ok (.i2l, 1) := by decide +kernel
theorem dX8_digest_294 : decode cX8_digest 294 = .ok (.ladd, 1) := by decide +kernel
theorem dX8_digest_295 : decode cX8_digest 295 = .ok (.lstore_n 2, 1) := by decide +kernel
theorem dX8_digest_296 : decode cX8_digest 296 = .ok (.ldc2_w 147, 3) := by decide +kernel
theorem dX8_digest_299 : decode cX8_digest 299 = .ok (.lload_n 2, 1) := by decide +kernel
theorem dX8_digest_300 : decode cX8_digest 300 = .ok (.lmul, 1) := by decide +kernel
theorem dX8_digest_301 : decode cX8_digest 301 = .ok (.aload_n 0, 1) := by decide +kernel
theorem dX8_digest_302 : decode cX8_digest 302 = .ok (.getfield 28, 3) := by decide +kernel
theorem dX8_digest_305 : decode cX8_digest 305 = .ok (.iload 4, 2) := by decide +kernel
theorem dX8_digest_307 : decode cX8_digest 307 = .ok (.iaload, 1) := by decide +kernel
theorem dX8_digest_308 : decode cX8_digest 308 = .ok (.i2l, 1) := by decide +kernel
theorem dX8_digest_309 : decode cX8_digest 309 = .ok (.ladd, 1) := by decide +kernel
theorem dX8_digest_310 : decode cX8_digest 310 = .ok (.lstore_n 2, 1) := by decide +kernel
theorem dX8_digest_311 : decode cX8_digest 311 = .ok (.iinc 4 1, 3) := by decide +kernel
theorem dX8_digest_314 : decode cX8_digest 314 = .ok (.goto (-42), 3) := by decide +kernel
theorem dX8_digest_317 : decode cX8_digest 317 = .ok (.iconst 0, 1) := by decide +kernel
theorem dX8_digest_318 : decode cX8_digest 318 = .ok (.istore 4, 2) := by decide +kernel
theorem dX8_digest_320 : decode cX8_digest 320 = .ok (.iload 4, 2) := by decide +kernel
theorem dX8_digest_322 : decode cX8_digest 322 = .ok (.aload_n 0, 1) := by decide +kernel
theorem dX8_digest_323 : decode cX8_digest 323 = .ok (.getfield 7, 3) := by decide +kernel
theorem dX8_digest_326 : decode cX8_digest 326 = .ok (.sipush 805, 3) := by decide +kernel
theorem dX8_digest_329 : decode cX8_digest 329 = .ok (.iaload, 1) := by decide +kernel
theorem dX8_digest_330 : decode cX8_digest 330 = .ok (.if_icmp .ge 42, 3) := by decide +kernel
theorem dX8_digest_333 : decode cX8_digest 333 = .ok (.ldc2_w 147, 3) := by decide +kernel
theorem dX8_digest_336 : decode cX8_digest 336 = .ok (.lload_n 2, 1) := by decide +kernel
theorem dX8_digest_337 : decode cX8_digest 337 = .ok (.lmul, 1) := by decide +kernel
theorem dX8_digest_338 : decode cX8_digest 338 = .ok (.aload_n 0, 1) := by decide +kernel
theorem dX8_digest_339 : decode cX8_digest 339 = .ok (.getfield 7, 3) := by decide +kernel
theorem dX8_digest_342 : decode cX8_digest 342 = .ok (.sipush 806, 3) := by decide +kernel
theorem dX8_digest_345 : decode cX8_digest 345 = .ok (.iload 4, 2) := by decide +kernel
theorem dX8_digest_347 : decode cX8_digest 347 = .ok (.iadd, 1) := by decide +kernel
theorem dX8_digest_348 : decode cX8_digest 348 = .ok (.iaload, 1) := by decide +kernel
theorem dX8_digest_349 : decode cX8_digest 349 = .ok (.i2l, 1) := by decide +kernel
theorem dX8_digest_350 : decode cX8_digest 350 = .ok (.ladd, 1) := by decide +kernel
theorem dX8_digest_351 : decode cX8_digest 351 = .ok (.lstore_n 2, 1) := by decide +kernel
theorem dX8_digest_352 : decode cX8_digest 352 = .ok (.ldc2_w 147, 3) := by decide +kernel
theorem dX8_digest_355 : decode cX8_digest 355 = .ok (.lload_n 2, 1) := by decide +kernel
theorem dX8_digest_356 : decode cX8_digest 356 = .ok (.lmul, 1) := by decide +kernel
theorem dX8_digest_357 : decode cX8_digest 357 = .ok (.aload_n 0, 1) := by decide +kernel
theorem dX8_digest_358 : decode cX8_digest 358 = .ok (.iload 4, 2) := by decide +kernel
theorem dX8_digest_360 : decode cX8_digest 360 = .ok (.invokevirtual 130, 3) := by decide +kernel
theorem dX8_digest_363 : decode cX8_digest 363 = .ok (.i2l, 1) := by decide +kernel
theorem dX8_digest_364 : decode cX8_digest 364 = .ok (.ladd, 1) := by decide +kernel
theorem dX8_digest_365 : decode cX8_digest 365 = .ok (.lstore_n 2, 1) := by decide +kernel
theorem dX8_digest_366 : decode cX8_digest 366 = .ok (.iinc 4 1, 3) := by decide +kernel
theorem dX8_digest_369 : decode cX8_digest 369 = .ok (.goto (-49), 3) := by decide +kernel
theorem dX8_digest_372 : decode cX8_digest 372 = .ok (.lload_n 2, 1) := by decide +kernel
theorem dX8_digest_373 : decode cX8_digest 373 = .ok (.lreturn, 1) := by decide +kernel
theorem dJ9_max_7cf53_0 : decode cJ9_max_7cf53 0 = .ok (.iload_n 0, 1) := by decide +kernel
theorem dJ9_max_7cf53_1 : decode cJ9_max_7cf53 1 = .ok (.iload_n 1, 1) := by decide +kernel
theorem dJ9_max_7cf53_2 : decode cJ9_max_7cf53 2 = .ok (.if_icmp .lt 7, 3) := by decide +kernel
theorem dJ9_max_7cf53_5 : decode cJ9_max_7cf53 5 = .ok (.iload_n 0, 1) := by decide +kernel
theorem dJ9_max_7cf53_6 : decode cJ9_max_7cf53 6 = .ok (.goto 4, 3) := by decide +kernel
theorem dJ9_max_7cf53_9 : decode cJ9_max_7cf53 9 = .ok (.iload_n 1, 1) := by decide +kernel
theorem dJ9_max_7cf53_10 : decode cJ9_max_7cf53 10 = .ok (.ireturn, 1) := by decide +kernel
theorem dJ9_min_7cf53_0 : decode cJ9_min_7cf53 0 = .ok (.iload_n 0, 1) := by decide +kernel
theorem dJ9_min_7cf53_1 : decode cJ9_min_7cf53 1 = .ok (.iload_n 1, 1) := by decide +kernel
theorem dJ9_min_7cf53_2 : decode cJ9_min_7cf53 2 = .ok (.if_icmp .gt 7, 3) := by decide +kernel
theorem dJ9_min_7cf53_5 : decode cJ9_min_7cf53 5 = .ok (.iload_n 0, 1) := by decide +kernel
theorem dJ9_min_7cf53_6 : decode cJ9_min_7cf53 6 = .ok (.goto 4, 3) := by decide +kernel
theorem dJ9_min_7cf53_9 : decode cJ9_min_7cf53 9 = .ok (.iload_n 1, 1) := by decide +kernel
theorem dJ9_min_7cf53_10 : decode cJ9_min_7cf53 10 = .ok (.ireturn, 1) := by decide +kernel
set_option maxRecDepth 20000 in
theorem ggJ0_length_8abf5_J0_coder_7d493 : GoodIn wsJ0_length_8abf5 wsJ0_coder_7d493 := goodIn_r _ [6, 7, 8] (by decide +kernel) (by decide +kernel)
set_option maxRecDepth 20000 in
theorem gJ0_length_8abf5_J0_coder_7d493 : GoodIn wsJ0_length_8abf5 (wsV RJ0 335 RJ0 yJ0_coder_7d493 wsJ0_coder_7d493) := goodIn_app (goodIn_of _ (by decide +kernel)) ggJ0_length_8abf5_J0_coder_7d493
theorem dJ0_length_8abf5_0 : decode cJ0_length_8abf5 0 = .ok (.aload_n 0, 1) := by decide +kernel
theorem dJ0_length_8abf5_1 : decode cJ0_length_8abf5 1 = .ok (.getfield 9, 3) := by decide +kernel
theorem dJ0_length_8abf5_4 : decode cJ0_length_8abf5 4 = .ok (.arraylength, 1) := by decide +kernel
theorem dJ0_length_8abf5_5 : decode cJ0_length_8abf5 5 = .ok (.aload_n 0, 1) := by decide +kernel
theorem dJ0_length_8abf5_6 : decode cJ0_length_8abf5 6 = .ok (.invokevirtual 335, 3) := by decide +kernel
theorem dJ0_length_8abf5_9 : decode cJ0_length_8abf5 9 = .ok (.ishr, 1) := by decide +kernel
theorem dJ0_length_8abf5_10 : decode cJ0_length_8abf5 10 = .ok (.ireturn, 1) := by decide +kernel
set_option maxRecDepth 20000 in
theorem ggJ0_charAt_5068e_J0_isLatin1_aae02 : GoodIn wsJ0_charAt_5068e wsJ0_isLatin1_aae02 := goodIn_r _ [6, 7, 8] (by decide +kernel) (by decide +kernel)
set_option maxRecDepth 20000 in
theorem gJ0_charAt_5068e_J0_isLatin1_aae02 : GoodIn wsJ0_charAt_5068e (wsV RJ0 492 RJ0 yJ0_isLatin1_aae02 wsJ0_isLatin1_aae02) := goodIn_app (goodIn_of _ (by decide +kernel)) ggJ0_charAt_5068e_J0_isLatin1_aae02
set_option maxRecDepth 20000 in
theorem ggJ0_charAt_5068e_J1_charAt_3b067 : GoodIn wsJ0_charAt_5068e wsJ1_charAt_3b067 := goodIn_r _ [12, 13, 14, 5, 15, 16, 17, 18, 19, 20] (by decide +kernel) (by decide +kernel)
set_option maxRecDepth 20000 in
theorem gJ0_charAt_5068e_J1_charAt_3b067 : GoodIn wsJ0_charAt_5068e (va_wsS RJ0 495 yJ1_charAt_3b067 wsJ1_charAt_3b067) := goodIn_app (goodIn_of _ (by decide +kernel)) ggJ0_charAt_5068e_J1_charAt_3b067
set_option maxRecDepth 20000 in
theorem ggJ0_charAt_5068e_J2_charAt_3b067 : GoodIn wsJ0_charAt_5068e wsJ2_charAt_3b067 := goodIn_r _ [24, 25, 26, 23, 27, 28, 29, 30, 31, 14, 5, 15, 16, 17, 18, 19, 20, 32, 33, 34, 35, 36, 37] (by decide +kernel) (by decide +kernel)
set_option maxRecDepth 20000 in
theorem gJ0_charAt_5068e_J2_charAt_3b067 : GoodIn wsJ0_charAt_5068e (va_wsS RJ0 498 yJ2_charAt_3b067 wsJ2_charAt_3b067) := goodIn_app (goodIn_of _ (by decide +kernel)) ggJ0_charAt_5068e_J2_charAt_3b067
theorem dJ0_charAt_5068e_0 : decode cJ0_charAt_5068e 0 = .ok (.aload_n 0, 1) := by decide +kernel
theorem dJ0_charAt_5068e_1 : decode cJ0_charAt_5068e 1 = .ok (.invokevirtual 492, 3) := by decide +kernel
theorem dJ0_charAt_5068e_4 : decode cJ0_charAt_5068e 4 = .ok (.ifCond .eq 12, 3) := by decide +kernel
theorem dJ0_charAt_5068e_7 : decode cJ0_charAt_5068e 7 = .ok (.aload_n 0, 1) := by decide +kernel
theorem dJ0_charAt_5068e_8 : decode cJ0_charAt_5068e 8 = .ok (.getfield 9, 3) := by decide +kernel
theorem dJ0_charAt_5068e_11 : decode cJ0_charAt_5068e 11 = .ok (.iload_n 1, 1) := by decide +kernel
theorem dJ0_charAt_5068e_12 : decode cJ0_charAt_5068e 12 = .ok (.invokestatic 495, 3) := by decide +kernel
theorem dJ0_charAt_5068e_15 : decode cJ0_charAt_5068e 15 = .ok (.ireturn, 1) := by decide +kernel
theorem dJ0_charAt_5068e_16 : decode cJ0_charAt_5068e 16 = .ok (.aload_n 0, 1) := by decide +kernel
theorem dJ0_charAt_5068e_17 : decode cJ0_charAt_5068e 17 = .ok (.getfield 9, 3) := by decide +kernel
theorem dJ0_charAt_5068e_20 : decode cJ0_charAt_5068e 20 = .ok (.iload_n 1, 1) := by decide +kernel
theorem dJ0_charAt_5068e_21 : decode cJ0_charAt_5068e 21 = .ok (.invokestatic 498, 3) := by decide +kernel
theorem dJ0_charAt_5068e_24 : decode cJ0_charAt_5068e 24 = .ok (.ireturn, 1) := by decide +kernel
set_option maxRecDepth 20000 in
theorem ggJ0_indexOf_0f7a4_J0_indexOf_7cf53 : GoodIn wsJ0_indexOf_0f7a4 wsJ0_indexOf_7cf53 := goodIn_r _ [5, 6, 7, 8, 9, 4, 10, 11, 12, 13, 14, 15, 16, 17, 18, 19, 20, 21, 22, 23, 24, 25, 26, 27, 28, 29, 30, 31, 32, 33, 34, 35, 36, 37, 38, 39, 40, 41, 42, 43, 44, 45, 46, 47, 48, 49, 50, 51, 52, 53, 54, 55, 56, 57, 58, 59, 60, 61, 62, 63, 64, 65, 66, 67, 68, 69, 70, 71, 72, 73, 74, 75, 76, 77, 78, 79, 80, 81, 82, 83, 84, 85] (by decide +kernel) (by decide +kernel)
set_option maxRecDepth 20000 in
theorem gJ0_indexOf_0f7a4_J0_indexOf_7cf53 : GoodIn wsJ0_indexOf_0f7a4 (wsV RJ0 633 RJ0 yJ0_indexOf_7cf53 wsJ0_indexOf_7cf53) := goodIn_app (goodIn_of _ (by decide +kernel)) ggJ0_indexOf_0f7a4_J0_indexOf_7cf53
theorem dJ0_indexOf_0f7a4_0 : decode cJ0_indexOf_0f7a4 0 = .ok (.aload_n 0, 1) := by decide +kernel
theorem dJ0_indexOf_0f7a4_1 : decode cJ0_indexOf_0f7a4 1 = .ok (.iload_n 1, 1) := by decide +kernel
theorem dJ0_indexOf_0f7a4_2 : decode cJ0_indexOf_0f7a4 2 = .ok (.iconst 0, 1) := by decide +kernel
theorem dJ0_indexOf_0f7a4_3 : decode cJ0_indexOf_0f7a4 3 = .ok (.invokevirtual 633, 3) := by decide +kernel
theorem dJ0_indexOf_0f7a4_6 : decode cJ0_indexOf_0f7a4 6 = .ok (.ireturn, 1) := by decide +kernel
set_option maxRecDepth 20000 in
theorem ggJ0_indexOf_7cf53_J0_isLatin1_aae02 : GoodIn wsJ0_indexOf_7cf53 wsJ0_isLatin1_aae02 := goodIn_r _ [6, 7, 8] (by decide +kernel) (by decide +kernel)
set_option maxRecDepth 20000 in
theorem gJ0_indexOf_7cf53_J0_isLatin1_aae02 : GoodIn wsJ0_indexOf_7cf53 (wsV RJ0 492 RJ0 yJ0_isLatin1_aae02 wsJ0_isLatin1_aae02) := goodIn_app (goodIn_of _ (by decide +kernel)) ggJ0_indexOf_7cf53_J0_isLatin1_aae02
set_option maxRecDepth 20000 in
theorem ggJ0_indexOf_7cf53_J0_length_8abf5 : GoodIn wsJ0_indexOf_7cf53 wsJ0_length_8abf5 := goodIn_r _ [12, 1, 13, 14, 15, 5, 16, 7, 8] (by decide +kernel) (by decide +kernel)
set_option maxRecDepth 20000 in
theorem gJ0_indexOf_7cf53_J0_length_8abf5 : GoodIn wsJ0_indexOf_7cf53 (wsV RJ0 505 RJ0 yJ0_length_8abf5 wsJ0_length_8abf5) := goodIn_app (goodIn_of _ (by decide +kernel)) ggJ0_indexOf_7cf53_J0_length_8abf5
set_option maxRecDepth 20000 in
theorem ggJ0_indexOf_7cf53_J1_indexOf_4cfef : GoodIn wsJ0_indexOf_7cf53 wsJ1_indexOf_4cfef := goodIn_r _ [20, 21, 22, 23, 24, 25, 26, 27, 28, 29, 19, 30, 31, 32, 33] (by decide +kernel) (by decide +kernel)
set_option maxRecDepth 20000 in
theorem gJ0_indexOf_7cf53_J1_indexOf_4cfef : GoodIn wsJ0_indexOf_7cf53 (va_wsS RJ0 637 yJ1_indexOf_4cfef wsJ1_indexOf_4cfef) := goodIn_app (goodIn_of _ (by decide +kernel)) ggJ0_indexOf_7cf53_J1_indexOf_4cfef
set_option maxRecDepth 20000 in
theorem ggJ0_indexOf_7cf53_J2_indexOf_4cfef : GoodIn wsJ0_indexOf_7cf53 wsJ2_indexOf_4cfef := goodIn_r _ [37, 38, 22, 23, 24, 39, 26, 27, 40, 41, 42, 36, 43, 44, 45, 46, 47, 48, 49, 50, 51, 5, 52, 53, 54, 55, 56, 57, 58, 59, 60, 61, 62, 63, 64, 65, 66, 67, 68, 69, 70, 71, 72, 73, 74, 75, 76, 77, 78, 79, 80, 81] (by decide +kernel) (by decide +kernel)
set_option maxRecDepth 20000 in
theorem gJ0_indexOf_7cf53_J2_indexOf_4cfef : GoodIn wsJ0_indexOf_7cf53 (va_wsS RJ0 640 yJ2_indexOf_4cfef wsJ2_indexOf_4cfef) := goodIn_app (goodIn_of _ (by decide +kernel)) ggJ0_indexOf_7cf53_J2_indexOf_4cfef
theorem dJ0_indexOf_7cf53_0 : decode cJ0_indexOf_7cf53 0 = .ok (.aload_n 0, 1) := by decide +kernel
theorem dJ0_indexOf_7cf53_1 : decode cJ0_indexOf_7cf53 1 = .ok (.invokevirtual 492, 3) := by decide +kernel
theorem dJ0_indexOf_7cf53_4 : decode cJ0_indexOf_7cf53 4 = .ok (.ifCond .eq 19, 3) := by decide +kernel
theorem dJ0_indexOf_7cf53_7 : decode cJ0_indexOf_7cf53 7 = .ok (.aload_n 0, 1) := by decide +kernel
theorem dJ0_indexOf_7cf53_8 : decode cJ0_indexOf_7cf53 8 = .ok (.getfield 9, 3) := by decide +kernel
theorem dJ0_indexOf_7cf53_11 : decode cJ0_indexOf_7cf53 11 = .ok (.iload_n 1, 1) := by decide +kernel
theorem dJ0_indexOf_7cf53_12 : decode cJ0_indexOf_7cf53 12 = .ok (.iload_n 2, 1) := by decide +kernel
theorem dJ0_indexOf_7cf53_13 : decode cJ0_indexOf_7cf53 13 = .ok (.aload_n 0, 1) := by decide +kernel
theorem dJ0_indexOf_7cf53_14 : decode cJ0_indexOf_7cf53 14 = .ok (.invokevirtual 505, 3) := by decide +kernel
theorem dJ0_indexOf_7cf53_17 : decode cJ0_indexOf_7cf53 17 = .ok (.invokestatic 637, 3) := by decide +kernel
theorem dJ0_indexOf_7cf53_20 : decode cJ0_indexOf_7cf53 20 = .ok (.goto 16, 3) := by decide +kernel
theorem dJ0_indexOf_7cf53_23 : decode cJ0_indexOf_7cf53 23 = .ok (.aload_n 0, 1) := by decide +kernel
theorem dJ0_indexOf_7cf53_24 : decode cJ0_indexOf_7cf53 24 = .ok (.getfield 9, 3) := by decide +kernel
theorem dJ0_indexOf_7cf53_27 : decode cJ0_indexOf_7cf53 27 = .ok (.iload_n 1, 1) := by decide +kernel
theorem dJ0_indexOf_7cf53_28 : decode cJ0_indexOf_7cf53 28 = .ok (.iload_n 2, 1) := by decide +kernel
theorem dJ0_indexOf_7cf53_29 : decode cJ0_indexOf_7cf53 29 = .ok (.aload_n 0, 1) := by decide +kernel
theorem dJ0_indexOf_7cf53_30 : decode cJ0_indexOf_7cf53 30 = .ok (.invokevirtual 505, 3) := by decide +kernel
theorem dJ0_indexOf_7cf53_33 : decode cJ0_indexOf_7cf53 33 = .ok (.invokestatic 640, 3) := by decide +kernel
theorem dJ0_indexOf_7cf53_36 : decode cJ0_indexOf_7cf53 36 = .ok (.ireturn, 1) := by decide +kernel
theorem dJ0_coder_7d493_0 : decode cJ0_coder_7d493 0 = .ok (.getstatic 38, 3) := by decide +kernel
theorem dJ0_coder_7d493_3 : decode cJ0_coder_7d493 3 = .ok (.ifCond .eq 10, 3) := by decide +kernel
theorem dJ0_coder_7d493_6 : decode cJ0_coder_7d493 6 = .ok (.aload_n 0, 1) := by decide +kernel
theorem dJ0_coder_7d493_7 : decode cJ0_coder_7d493 7 = .ok (.getfield 15, 3) := by decide +kernel
theorem dJ0_coder_7d493_10 : decode cJ0_coder_7d493 10 = .ok (.goto 4, 3) := by decide +kernel
theorem dJ0_coder_7d493_13 : decode cJ0_coder_7d493 13 = .ok (.iconst 1, 1) := by decide +kernel
theorem dJ0_coder_7d493_14 : decode cJ0_coder_7d493 14 = .ok (.ireturn, 1) := by decide +kernel
theorem dJ0_isLatin1_aae02_0 : decode cJ0_isLatin1_aae02 0 = .ok (.getstatic 38, 3) := by decide +kernel
theorem dJ0_isLatin1_aae02_3 : decode cJ0_isLatin1_aae02 3 = .ok (.ifCond .eq 14, 3) := by decide +kernel
theorem dJ0_isLatin1_aae02_6 : decode cJ0_isLatin1_aae02 6 = .ok (.aload_n 0, 1) := by decide +kernel
theorem dJ0_isLatin1_aae02_7 : decode cJ0_isLatin1_aae02 7 = .ok (.getfield 15, 3) := by decide +kernel
theorem dJ0_isLatin1_aae02_10 : decode cJ0_isLatin1_aae02 10 = .ok (.ifCond .ne 7, 3) := by decide +kernel
theorem dJ0_isLatin1_aae02_13 : decode cJ0_isLatin1_aae02 13 = .ok (.iconst 1, 1) := by decide +kernel
theorem dJ0_isLatin1_aae02_14 : decode cJ0_isLatin1_aae02 14 = .ok (.goto 4, 3) := by decide +kernel
theorem dJ0_isLatin1_aae02_17 : decode cJ0_isLatin1_aae02 17 = .ok (.iconst 0, 1) := by decide +kernel
theorem dJ0_isLatin1_aae02_18 : decode cJ0_isLatin1_aae02 18 = .ok (.ireturn, 1) := by decide +kernel
set_option maxRecDepth 20000 in
theorem ggJ0_checkIndex_df160_J3_checkIndex_8e157 : GoodIn wsJ0_checkIndex_df160 wsJ3_checkIndex_8e157 := goodIn_r _ [5] (by decide +kernel) (by decide +kernel)
set_option maxRecDepth 20000 in
theorem gJ0_checkIndex_df160_J3_checkIndex_8e157 : GoodIn wsJ0_checkIndex_df160 (va_wsS RJ0 1059 yJ3_checkIndex_8e157 wsJ3_checkIndex_8e157) := goodIn_app (goodIn_of _ (by decide +kernel)) ggJ0_checkIndex_df160_J3_checkIndex_8e157
theorem dJ0_checkIndex_df160_0 : decode cJ0_checkIndex_df160 0 = .ok (.iload_n 0, 1) := by decide +kernel
theorem dJ0_checkIndex_df160_1 : decode cJ0_checkIndex_df160 1 = .ok (.iload_n 1, 1) := by decide +kernel
theorem dJ0_checkIndex_df160_2 : decode cJ0_checkIndex_df160 2 = .ok (.getstatic 1053, 3) := by decide +kernel
theorem dJ0_checkIndex_df160_5 : decode cJ0_checkIndex_df160 5 = .ok (.invokestatic 1059, 3) := by decide +kernel
theorem dJ0_checkIndex_df160_8 : decode cJ0_checkIndex_df160 8 = .ok (.pop, 1) := by decide +kernel
theorem dJ0_checkIndex_df160_9 : decode cJ0_checkIndex_df160 9 = .ok (.return_, 1) := by decide +kernel
set_option maxRecDepth 20000 in
theorem ggJ0_checkBoundsBeginEnd_23922_J3_checkFromToIndex_8c36e : GoodIn wsJ0_checkBoundsBeginEnd_23922 wsJ3_checkFromToIndex_8c36e := goodIn_r _ [5] (by decide +kernel) (by decide +kernel)
set_option maxRecDepth 20000 in
theorem gJ0_checkBoundsBeginEnd_23922_J3_checkFromToIndex_8c36e : GoodIn wsJ0_checkBoundsBeginEnd_23922 (va_wsS RJ0 1062 yJ3_checkFromToIndex_8c36e wsJ3_checkFromToIndex_8c36e) := goodIn_app (goodIn_of _ (by decide +kernel)) ggJ0_checkBoundsBeginEnd_23922_J3_checkFromToIndex_8c36e
theorem dJ0_checkBoundsBeginEnd_23922_0 : decode cJ0_checkBoundsBeginEnd_23922 0 = .ok (.iload_n 0, 1) := by decide +kernel
theorem dJ0_checkBoundsBeginEnd_23922_1 : decode cJ0_checkBoundsBeginEnd_23922 1 = .ok (.iload_n 1, 1) := by decide +kernel
theorem dJ0_checkBoundsBeginEnd_23922_2 : decode cJ0_checkBoundsBeginEnd_23922 2 = .ok (.iload_n 2, 1) := by decide +kernel
theorem dJ0_checkBoundsBeginEnd_23922_3 : decode cJ0_checkBoundsBeginEnd_23922 3 = .ok (.getstatic 1053, 3) := by decide +kernel
theorem dJ0_checkBoundsBeginEnd_23922_6 : decode cJ0_checkBoundsBeginEnd_23922 6 = .ok (.invokestatic 1062, 3) := by decide +kernel
theorem dJ0_checkBoundsBeginEnd_23922_9 : decode cJ0_checkBoundsBeginEnd_23922 9 = .ok (.pop, 1) := by decide +kernel
theorem dJ0_checkBoundsBeginEnd_23922_10 : decode cJ0_checkBoundsBeginEnd_23922 10 = .ok (.return_, 1) := by decide +kernel
set_option maxRecDepth 20000 in
theorem ggJ1_charAt_3b067_J0_checkIndex_df160 : GoodIn wsJ1_charAt_3b067 wsJ0_checkIndex_df160 := goodIn_r _ [4, 5, 6, 7, 8, 9] (by decide +kernel) (by decide +kernel)
set_option maxRecDepth 20000 in
theorem gJ1_charAt_3b067_J0_checkIndex_df160 : GoodIn wsJ1_charAt_3b067 (va_wsS RJ1 9 yJ0_checkIndex_df160 wsJ0_checkIndex_df160) := goodIn_app (goodIn_of _ (by decide +kernel)) ggJ1_charAt_3b067_J0_checkIndex_df160
theorem dJ1_charAt_3b067_0 : decode cJ1_charAt_3b067 0 = .ok (.iload_n 1, 1) := by decide +kernel
theorem dJ1_charAt_3b067_1 : decode cJ1_charAt_3b067 1 = .ok (.aload_n 0, 1) := by decide +kernel
theorem dJ1_charAt_3b067_2 : decode cJ1_charAt_3b067 2 = .ok (.arraylength, 1) := by decide +kernel
theorem dJ1_charAt_3b067_3 : decode cJ1_charAt_3b067 3 = .ok (.invokestatic 9, 3) := by decide +kernel
theorem dJ1_charAt_3b067_6 : decode cJ1_charAt_3b067 6 = .ok (.aload_n 0, 1) := by decide +kernel
theorem dJ1_charAt_3b067_7 : decode cJ1_charAt_3b067 7 = .ok (.iload_n 1, 1) := by decide +kernel
theorem dJ1_charAt_3b067_8 : decode cJ1_charAt_3b067 8 = .ok (.baload, 1) := by decide +kernel
theorem dJ1_charAt_3b067_9 : decode cJ1_charAt_3b067 9 = .ok (.sipush 255, 3) := by decide +kernel
theorem dJ1_charAt_3b067_12 : decode cJ1_charAt_3b067 12 = .ok (.iand, 1) := by decide +kernel
theorem dJ1_charAt_3b067_13 : decode cJ1_charAt_3b067 13 = .ok (.i2c, 1) := by decide +kernel
theorem dJ1_charAt_3b067_14 : decode cJ1_charAt_3b067 14 = .ok (.ireturn, 1) := by decide +kernel
theorem dJ1_canEncode_9a6ad_0 : decode cJ1_canEncode_9a6ad 0 = .ok (.iload_n 0, 1) := by decide +kernel
theorem dJ1_canEncode_9a6ad_1 : decode cJ1_canEncode_9a6ad 1 = .ok (.ifCond .lt 14, 3) := by decide +kernel
theorem dJ1_canEncode_9a6ad_4 : decode cJ1_canEncode_9a6ad 4 = .ok (.iload_n 0, 1) := by decide +kernel
theorem dJ1_canEncode_9a6ad_5 : decode cJ1_canEncode_9a6ad 5 = .ok (.sipush 255, 3) := by decide +kernel
theorem dJ1_canEncode_9a6ad_8 : decode cJ1_canEncode_9a6ad 8 = .ok (.if_icmp .gt 7, 3) := by decide +kernel
theorem dJ1_canEncode_9a6ad_11 : decode cJ1_canEncode_9a6ad 11 = .ok (.iconst 1, 1) := by decide +kernel
theorem dJ1_canEncode_9a6ad_12 : decode cJ1_canEncode_9a6ad 12 = .ok (.goto 4, 3) := by decide +kernel
theorem dJ1_canEncode_9a6ad_15 : decode cJ1_canEncode_9a6ad 15 = .ok (.iconst 0, 1) := by decide +kernel
theorem dJ1_canEncode_9a6ad_16 : decode cJ1_canEncode_9a6ad 16 = .ok (.ireturn, 1) := by decide +kernel
set_option maxRecDepth 20000 in
theorem ggJ1_indexOf_4cfef_J1_canEncode_9a6ad : GoodIn wsJ1_indexOf_4cfef wsJ1_canEncode_9a6ad := goodIn_r _ [11] (by decide +kernel) (by decide +kernel)
set_option maxRecDepth 20000 in
theorem gJ1_indexOf_4cfef_J1_canEncode_9a6ad : GoodIn wsJ1_indexOf_4cfef (va_wsS RJ1 88 yJ1_canEncode_9a6ad wsJ1_canEncode_9a6ad) := goodIn_app (goodIn_of _ (by decide +kernel)) ggJ1_indexOf_4cfef_J1_canEncode_9a6ad
set_option maxRecDepth 20000 in
theorem ggJ1_indexOf_4cfef_J1_indexOfChar_4cfef : GoodIn wsJ1_indexOf_4cfef wsJ1_indexOfChar_4cfef := goodIn_r _ [14] (by decide +kernel) (by decide +kernel)
set_option maxRecDepth 20000 in
theorem gJ1_indexOf_4cfef_J1_indexOfChar_4cfef : GoodIn wsJ1_indexOf_4cfef (va_wsS RJ1 95 yJ1_indexOfChar_4cfef wsJ1_indexOfChar_4cfef) := goodIn_app (goodIn_of _ (by decide +kernel)) ggJ1_indexOf_4cfef_J1_indexOfChar_4cfef
theorem dJ1_indexOf_4cfef_0 : decode cJ1_indexOf_4cfef 0 = .ok (.iload_n 1, 1) := by decide +kernel
theorem dJ1_indexOf_4cfef_1 : decode cJ1_indexOf_4cfef 1 = .ok (.invokestatic 88, 3) := by decide +kernel
theorem dJ1_indexOf_4cfef_4 : decode cJ1_indexOf_4cfef 4 = .ok (.ifCond .ne 5, 3) := by decide +kernel
theorem dJ1_indexOf_4cfef_7 : decode cJ1_indexOf_4cfef 7 = .ok (.iconst (-1), 1) := by decide +kernel
theorem dJ1_indexOf_4cfef_8 : decode cJ1_indexOf_4cfef 8 = .ok (.ireturn, 1) := by decide +kernel
theorem dJ1_indexOf_4cfef_9 : decode cJ1_indexOf_4cfef 9 = .ok (.iload_n 2, 1) := by decide +kernel
theorem dJ1_indexOf_4cfef_10 : decode cJ1_indexOf_4cfef 10 = .ok (.iconst 0, 1) := by decide +kernel
theorem dJ1_indexOf_4cfef_11 : decode cJ1_indexOf_4cfef 11 = .ok (.invokestatic 92, 3) := by decide +kernel
theorem dJ1_indexOf_4cfef_14 : decode cJ1_indexOf_4cfef 14 = .ok (.istore_n 2, 1) := by decide +kernel
theorem dJ1_indexOf_4cfef_15 : decode cJ1_indexOf_4cfef 15 = .ok (.iload_n 3, 1) := by decide +kernel
theorem dJ1_indexOf_4cfef_16 : decode cJ1_indexOf_4cfef 16 = .ok (.aload_n 0, 1) := by decide +kernel
theorem dJ1_indexOf_4cfef_17 : decode cJ1_indexOf_4cfef 17 = .ok (.arraylength, 1) := by decide +kernel
theorem dJ1_indexOf_4cfef_18 : decode cJ1_indexOf_4cfef 18 = .ok (.invokestatic 38, 3) := by decide +kernel
theorem dJ1_indexOf_4cfef_21 : decode cJ1_indexOf_4cfef 21 = .ok (.istore_n 3, 1) := by decide +kernel
theorem dJ1_indexOf_4cfef_22 : decode cJ1_indexOf_4cfef 22 = .ok (.iload_n 2, 1) := by decide +kernel
theorem dJ1_indexOf_4cfef_23 : decode cJ1_indexOf_4cfef 23 = .ok (.iload_n 3, 1) := by decide +kernel
theorem dJ1_indexOf_4cfef_24 : decode cJ1_indexOf_4cfef 24 = .ok (.if_icmp .lt 5, 3) := by decide +kernel
theorem dJ1_indexOf_4cfef_27 : decode cJ1_indexOf_4cfef 27 = .ok (.iconst (-1), 1) := by decide +kernel
theorem dJ1_indexOf_4cfef_28 : decode cJ1_indexOf_4cfef 28 = .ok (.ireturn, 1) := by decide +kernel
theorem dJ1_indexOf_4cfef_29 : decode cJ1_indexOf_4cfef 29 = .ok (.aload_n 0, 1) := by decide +kernel
theorem dJ1_indexOf_4cfef_30 : decode cJ1_indexOf_4cfef 30 = .ok (.iload_n 1, 1) := by decide +kernel
theorem dJ1_indexOf_4cfef_31 : decode cJ1_indexOf_4cfef 31 = .ok (.iload_n 2, 1) := by decide +kernel
theorem dJ1_indexOf_4cfef_32 : decode cJ1_indexOf_4cfef 32 = .ok (.iload_n 3, 1) := by decide +kernel
theorem dJ1_indexOf_4cfef_33 : decode cJ1_indexOf_4cfef 33 = .ok (.invokestatic 95, 3) := by decide +kernel
theorem dJ1_indexOf_4cfef_36 : decode cJ1_indexOf_4cfef 36 = .ok (.ireturn, 1) := by decide +kernel
theorem dJ1_indexOfChar_4cfef_0 : decode cJ1_indexOfChar_4cfef 0 = .ok (.iload_n 1, 1) := by decide +kernel
theorem dJ1_indexOfChar_4cfef_1 : decode cJ1_indexOfChar_4cfef 1 = .ok (.i2b, 1) := by decide +kernel
theorem dJ1_indexOfChar_4cfef_2 : decode cJ1_indexOfChar_4cfef 2 = .ok (.istore 4, 2) := by decide +kernel
theorem dJ1_indexOfChar_4cfef_4 : decode cJ1_indexOfChar_4cfef 4 = .ok (.iload_n 2, 1) := by decide +kernel
theorem dJ1_indexOfChar_4cfef_5 : decode cJ1_indexOfChar_4cfef 5 = .ok (.istore 5, 2) := by decide +kernel
theorem dJ1_indexOfChar_4cfef_7 : decode cJ1_indexOfChar_4cfef 7 = .ok (.iload 5, 2) := by decide +kernel
theorem dJ1_indexOfChar_4cfef_9 : decode cJ1_indexOfChar_4cfef 9 = .ok (.iload_n 3, 1) := by decide +kernel
theorem dJ1_indexOfChar_4cfef_10 : decode cJ1_indexOfChar_4cfef 10 = .ok (.if_icmp .ge 21, 3) := by decide +kernel
theorem dJ1_indexOfChar_4cfef_13 : decode cJ1_indexOfChar_4cfef 13 = .ok (.aload_n 0, 1) := by decide +kernel
theorem dJ1_indexOfChar_4cfef_14 : decode cJ1_indexOfChar_4cfef 14 = .ok (.iload 5, 2) := by decide +kernel
theorem dJ1_indexOfChar_4cfef_16 : decode cJ1_indexOfChar_4cfef 16 = .ok (.baload, 1) := by decide +kernel
theorem dJ1_indexOfChar_4cfef_17 : decode cJ1_indexOfChar_4cfef 17 = .ok (.iload 4, 2) := by decide +kernel
theorem dJ1_indexOfChar_4cfef_19 : decode cJ1_indexOfChar_4cfef 19 = .ok (.if_icmp .ne 6, 3) := by decide +kernel
theorem dJ1_indexOfChar_4cfef_22 : decode cJ1_indexOfChar_4cfef 22 = .ok (.iload 5, 2) := by decide +kernel
theorem dJ1_indexOfChar_4cfef_24 : decode cJ1_indexOfChar_4cfef 24 = .ok (.ireturn, 1) := by decide +kernel
theorem dJ1_indexOfChar_4cfef_25 : decode cJ1_indexOfChar_4cfef 25 = .ok (.iinc 5 1, 3) := by decide +kernel
theorem dJ1_indexOfChar_4cfef_28 : decode cJ1_indexOfChar_4cfef 28 = .ok (.goto (-21), 3) := by decide +kernel
theorem dJ1_indexOfChar_4cfef_31 : decode cJ1_indexOfChar_4cfef 31 = .ok (.iconst (-1), 1) := by decide +kernel
theorem dJ1_indexOfChar_4cfef_32 : decode cJ1_indexOfChar_4cfef 32 = .ok (.ireturn, 1) := by decide +kernel
theorem dJ3_checkIndex_8e157_0 : decode cJ3_checkIndex_8e157 0 = .ok (.iload_n 0, 1) := by decide +kernel
theorem dJ3_checkIndex_8e157_1 : decode cJ3_checkIndex_8e157 1 = .ok (.ifCond .lt 8, 3) := by decide +kernel
theorem dJ3_checkIndex_8e157_4 : decode cJ3_checkIndex_8e157 4 = .ok (.iload_n 0, 1) := by decide +kernel
theorem dJ3_checkIndex_8e157_5 : decode cJ3_checkIndex_8e157 5 = .ok (.iload_n 1, 1) := by decide +kernel
theorem dJ3_checkIndex_8e157_6 : decode cJ3_checkIndex_8e157 6 = .ok (.if_icmp .lt 10, 3) := by decide +kernel
theorem dJ3_checkIndex_8e157_9 : decode cJ3_checkIndex_8e157 9 = .ok (.aload_n 2, 1) := by decide +kernel
theorem dJ3_checkIndex_8e157_10 : decode cJ3_checkIndex_8e157 10 = .ok (.iload_n 0, 1) := by decide +kernel
theorem dJ3_checkIndex_8e157_11 : decode cJ3_checkIndex_8e157 11 = .ok (.iload_n 1, 1) := by decide +kernel
theorem dJ3_checkIndex_8e157_12 : decode cJ3_checkIndex_8e157 12 = .ok (.invokestatic 95, 3) := by decide +kernel
theorem dJ3_checkIndex_8e157_15 : decode cJ3_checkIndex_8e157 15 = .ok (.athrow, 1) := by decide +kernel
theorem dJ3_checkIndex_8e157_16 : decode cJ3_checkIndex_8e157 16 = .ok (.iload_n 0, 1) := by decide +kernel
theorem dJ3_checkIndex_8e157_17 : decode cJ3_checkIndex_8e157 17 = .ok (.ireturn, 1) := by decide +kernel
set_option maxRecDepth 20000 in
theorem ggL_append_X7_append : GoodIn wsL_append wsX7_append := goodIn_ca (goodIn_ca (goodIn_r _ [7, 8, 9, 10, 11, 12, 13, 14, 15, 16, 17, 18, 19, 20, 21, 22, 23, 24, 25, 26, 27, 28, 29, 30, 31, 32, 33, 34, 35, 36, 37, 38, 39, 40, 41, 42, 43, 44, 45, 46, 47, 48, 49, 50, 51, 52, 53, 54, 55, 56, 57, 58, 59, 60, 61, 62, 63, 64, 65, 66, 67, 68, 69, 70, 71, 72, 73, 74, 75, 76, 77, 78, 79, 80, 81, 82, 83, 84, 85, 86, 87, 88, 89, 90, 91, 92, 93, 94, 95, 96, 97, 98, 99, 100, 101, 102, 103, 104, 105, 106, 107, 108, 109, 110, 111, 112, 113, 114, 115, 116, 117, 118, 119, 120, 121, 122, 123, 124, 125, 126, 127, 128, 129] (by decide +kernel) (by decide +kernel)) (goodIn_sub (fun _ h => List.mem_cons_of_mem _ (List.mem_append_left _ (List.mem_append_right _ h))) (by decide +kernel))) (goodIn_sub (fun _ h => List.mem_cons_of_mem _ (List.mem_append_right _ h)) (by decide +kernel))
set_option maxRecDepth 20000 in
theorem gL_append_X7_append : GoodIn wsL_append (wsV RL 7 RX7 yX7_append wsX7_append) := goodIn_app (goodIn_of _ (by decide +kernel)) ggL_append_X7_append
theorem dL_append_0 : decode cL_append 0 = .ok (.aload_n 2, 1) := by decide +kernel
theorem dL_append_1 : decode cL_append 1 = .ok (.iconst 0, 1) := by decide +kernel
theorem dL_append_2 : decode cL_append 2 = .ok (.aload_n 0, 1) := by decide +kernel
theorem dL_append_3 : decode cL_append 3 = .ok (.iload_n 1, 1) := by decide +kernel
theorem dL_append_4 : decode cL_append 4 = .ok (.invokevirtual 7, 3) := by decide +kernel
theorem dL_append_7 : decode cL_append 7 = .ok (.i2l, 1) := by decide +kernel
theorem dL_append_8 : decode cL_append 8 = .ok (.lastore, 1) := by decide +kernel
theorem dL_append_9 : decode cL_append 9 = .ok (.goto 9, 3) := by decide +kernel
theorem dL_append_12 : decode cL_append 12 = .ok (.astore_n 3, 1) := by decide +kernel
theorem dL_append_13 : decode cL_append 13 = .ok (.iconst 1, 1) := by decide +kernel
theorem dL_append_14 : decode cL_append 14 = .ok (.ireturn, 1) := by decide +kernel
theorem dL_append_15 : decode cL_append 15 = .ok (.astore_n 3, 1) := by decide +kernel
theorem dL_append_16 : decode cL_append 16 = .ok (.iconst 2, 1) := by decide +kernel
theorem dL_append_17 : decode cL_append 17 = .ok (.ireturn, 1) := by decide +kernel
theorem dL_append_18 : decode cL_append 18 = .ok (.iconst 0, 1) := by decide +kernel
theorem dL_append_19 : decode cL_append 19 = .ok (.ireturn, 1) := by decide +kernel
set_option maxRecDepth 20000 in
theorem ggL_send_X7_send : GoodIn wsL_send wsX7_send := goodIn_ca (goodIn_r _ [6, 7, 8, 9, 10, 11, 12, 13, 14, 15, 16, 17, 18, 19, 20, 21, 5, 22, 23, 24, 25, 26, 27, 28, 29, 30, 31, 32, 33, 34, 35, 36, 37, 38, 39, 40, 41, 42, 43, 44, 45, 46, 47, 48, 49, 50, 51, 52, 53, 54, 55, 56, 57, 58, 59, 60, 61, 62, 63, 64, 65, 66, 67, 68, 69, 70, 71, 72, 73, 74, 75, 76, 77, 78, 79, 80, 81, 82, 83, 84, 85, 86, 87, 88, 89, 90, 91, 92, 93, 94, 95, 96, 97, 98, 99, 100, 101, 102, 103, 104, 105, 106, 107, 108, 109, 110, 111, 112, 113, 114, 115, 116, 117, 118, 119, 120, 121, 122, 123, 124, 125, 126, 127, 128, 129, 130, 131, 132, 133, 134, 135, 136, 137, 138, 139, 140, 141, 142, 143, 144, 145, 146, 147, 148, 149, 150, 151, 152, 153, 154, 155, 156, 157, 158, 159, 160, 161, 162, 163, 164, 165, 166, 167, 168, 169, 170, 171, 172, 173, 174, 175, 176, 177, 178, 179, 180, 181, 182, 183, 184, 185, 186, 187, 188, 189, 190, 191, 192, 193, 194, 195, 196, 197, 198, 199, 200, 201, 202, 203, 204, 205, 206, 207, 208, 209, 210, 211, 212, 213, 214, 215, 216, 217, 218, 219, 220, 221, 222, 223, 224, 225, 226, 227, 228, 229, 230, 231, 232, 233, 234, 235, 236, 237, 238, 239, 240, 241, 242, 243, 244, 245, 246, 247, 248, 249, 250, 251, 252, 253, 254, 255, 256, 257, 258, 259, 260, 261, 262, 263, 264, 265, 266, 267, 268, 269, 270, 271, 272, 273, 274, 275, 276, 277, 278, 279, 280, 281, 282, 283, 284, 285, 286, 287, 288, 289, 290, 291, 292, 293, 294, 295, 296, 297, 298, 299, 300, 301, 302, 303, 304, 305, 306, 307, 308, 309, 310, 311, 312, 313, 314, 315, 316, 317, 318, 319, 320, 321, 322, 323, 324, 325, 326, 327, 328, 329, 330, 331, 332, 333, 334, 335, 336, 337, 338, 339] (by decide +kernel) (by decide +kernel)) (goodIn_sub (fun _ h => List.mem_cons_of_mem _ (List.mem_append_right _ h)) (by decide +kernel))
set_option maxRecDepth 20000 in
theorem gL_send_X7_send : GoodIn wsL_send (wsV RL 17 RX7 yX7_send wsX7_send) := goodIn_app (goodIn_of _ (by decide +kernel)) ggL_send_X7_send
theorem dL_send_0 : decode cL_send 0 = .ok (.aload_n 1, 1) := by decide +kernel
theorem dL_send_1 : decode cL_send 1 = .ok (.iconst 0, 1) := by decide +kernel
theorem dL_send_2 : decode cL_send 2 = .ok (.aload_n 0, 1) := by decide +kernel
theorem dL_send_3 : decode cL_send 3 = .ok (.invokevirtual 17, 3) := by decide +kernel
theorem dL_send_6 : decode cL_send 6 = .ok (.i2l, 1) := by decide +kernel
theorem dL_send_7 : decode cL_send 7 = .ok (.lastore, 1) := by decide +kernel
theorem dL_send_8 : decode cL_send 8 = .ok (.goto 6, 3) := by decide +kernel
theorem dL_send_11 : decode cL_send 11 = .ok (.astore_n 2, 1) := by decide +kernel
theorem dL_send_12 : decode cL_send 12 = .ok (.iconst 1, 1) := by decide +kernel
theorem dL_send_13 : decode cL_send 13 = .ok (.ireturn, 1) := by decide +kernel
theorem dL_send_14 : decode cL_send 14 = .ok (.iconst 0, 1) := by decide +kernel
theorem dL_send_15 : decode cL_send 15 = .ok (.ireturn, 1) := by decide +kernel
set_option maxRecDepth 20000 in
theorem ggL_setFault_X7_setFault : GoodIn wsL_setFault wsX7_setFault := goodIn_ca (goodIn_ca (goodIn_r _ [7, 8, 9, 10, 11, 12, 13, 14, 15, 16, 17, 18, 19, 20, 21, 22, 23, 24, 25, 26, 27, 28, 29, 30, 31, 32, 33, 34, 35, 36, 37, 38, 39, 40, 41, 42, 43, 44, 45, 46, 47, 48, 49, 50, 51, 52, 53, 54, 55, 56, 57, 58, 59, 60, 61, 62, 63, 64, 65, 66, 67, 68, 69, 70, 71, 72, 73, 74, 75, 76, 77, 78, 79, 80, 81, 82, 83, 84, 85, 86, 87, 88, 89, 90, 91, 92, 93, 94, 95, 96, 97, 98] (by decide +kernel) (by decide +kernel)) (goodIn_sub (fun _ h => List.mem_cons_of_mem _ (List.mem_append_left _ (List.mem_append_right _ h))) (by decide +kernel))) (goodIn_sub (fun _ h => List.mem_cons_of_mem _ (List.mem_append_right _ h)) (by decide +kernel))
set_option maxRecDepth 20000 in
theorem gL_setFault_X7_setFault : GoodIn wsL_setFault (wsV RL 21 RX7 yX7_setFault wsX7_setFault) := goodIn_app (goodIn_of _ (by decide +kernel)) ggL_setFault_X7_setFault
theorem dL_setFault_0 : decode cL_setFault 0 = .ok (.aload_n 3, 1) := by decide +kernel
theorem dL_setFault_1 : decode cL_setFault 1 = .ok (.iconst 0, 1) := by decide +kernel
theorem dL_setFault_2 : decode cL_setFault 2 = .ok (.aload_n 0, 1) := by decide +kernel
theorem dL_setFault_3 : decode cL_setFault 3 = .ok (.iload_n 1, 1) := by decide +kernel
theorem dL_setFault_4 : decode cL_setFault 4 = .ok (.iload_n 2, 1) := by decide +kernel
theorem dL_setFault_5 : decode cL_setFault 5 = .ok (.invokevirtual 21, 3) := by decide +kernel
theorem dL_setFault_8 : decode cL_setFault 8 = .ok (.i2l, 1) := by decide +kernel
theorem dL_setFault_9 : decode cL_setFault 9 = .ok (.lastore, 1) := by decide +kernel
theorem dL_setFault_10 : decode cL_setFault 10 = .ok (.goto 11, 3) := by decide +kernel
theorem dL_setFault_13 : decode cL_setFault 13 = .ok (.astore 4, 2) := by decide +kernel
theorem dL_setFault_15 : decode cL_setFault 15 = .ok (.iconst 1, 1) := by decide +kernel
theorem dL_setFault_16 : decode cL_setFault 16 = .ok (.ireturn, 1) := by decide +kernel
theorem dL_setFault_17 : decode cL_setFault 17 = .ok (.astore 4, 2) := by decide +kernel
theorem dL_setFault_19 : decode cL_setFault 19 = .ok (.iconst 2, 1) := by decide +kernel
theorem dL_setFault_20 : decode cL_setFault 20 = .ok (.ireturn, 1) := by decide +kernel
theorem dL_setFault_21 : decode cL_setFault 21 = .ok (.iconst 0, 1) := by decide +kernel
theorem dL_setFault_22 : decode cL_setFault 22 = .ok (.ireturn, 1) := by decide +kernel
set_option maxRecDepth 20000 in
theorem ggL_sentCode_X7_sentCode : GoodIn wsL_sentCode wsX7_sentCode := goodIn_ca (goodIn_r _ [6, 7, 8, 9, 10, 11, 12, 13, 14, 15, 16, 17, 18, 19, 20, 21, 22, 23, 24, 25, 26, 27, 28, 29, 30, 31, 32, 33, 34, 35] (by decide +kernel) (by decide +kernel)) (goodIn_sub (fun _ h => List.mem_cons_of_mem _ (List.mem_append_right _ h)) (by decide +kernel))
set_option maxRecDepth 20000 in
theorem gL_sentCode_X7_sentCode : GoodIn wsL_sentCode (wsV RL 27 RX7 yX7_sentCode wsX7_sentCode) := goodIn_app (goodIn_of _ (by decide +kernel)) ggL_sentCode_X7_sentCode
theorem dL_sentCode_0 : decode cL_sentCode 0 = .ok (.aload_n 2, 1) := by decide +kernel
theorem dL_sentCode_1 : decode cL_sentCode 1 = .ok (.iconst 0, 1) := by decide +kernel
theorem dL_sentCode_2 : decode cL_sentCode 2 = .ok (.aload_n 0, 1) := by decide +kernel
theorem dL_sentCode_3 : decode cL_sentCode 3 = .ok (.iload_n 1, 1) := by decide +kernel
theorem dL_sentCode_4 : decode cL_sentCode 4 = .ok (.invokevirtual 27, 3) := by decide +kernel
theorem dL_sentCode_7 : decode cL_sentCode 7 = .ok (.i2l, 1) := by decide +kernel
theorem dL_sentCode_8 : decode cL_sentCode 8 = .ok (.lastore, 1) := by decide +kernel
theorem dL_sentCode_9 : decode cL_sentCode 9 = .ok (.goto 6, 3) := by decide +kernel
theorem dL_sentCode_12 : decode cL_sentCode 12 = .ok (.astore_n 3, 1) := by decide +kernel
theorem dL_sentCode_13 : decode cL_sentCode 13 = .ok (.iconst 1, 1) := by decide +kernel
theorem dL_sentCode_14 : decode cL_sentCode 14 = .ok (.ireturn, 1) := by decide +kernel
theorem dL_sentCode_15 : decode cL_sentCode 15 = .ok (.iconst 0, 1) := by decide +kernel
theorem dL_sentCode_16 : decode cL_sentCode 16 = .ok (.ireturn, 1) := by decide +kernel
set_option maxRecDepth 20000 in
theorem ggL_receivedCode_X7_receivedCode : GoodIn wsL_receivedCode wsX7_receivedCode := goodIn_ca (goodIn_r _ [6, 7, 8, 9, 10, 11, 12, 13, 14, 15, 16, 17, 18, 19, 20, 21, 22, 23, 24, 25, 26, 27, 28, 29, 30, 31, 32, 33, 34, 35] (by decide +kernel) (by decide +kernel)) (goodIn_sub (fun _ h => List.mem_cons_of_mem _ (List.mem_append_right _ h)) (by decide +kernel))
set_option maxRecDepth 20000 in
theorem gL_receivedCode_X7_receivedCode : GoodIn wsL_receivedCode (wsV RL 30 RX7 yX7_receivedCode wsX7_receivedCode) := goodIn_app (goodIn_of _ (by decide +kernel)) ggL_receivedCode_X7_receivedCode
theorem dL_receivedCode_0 : decode cL_receivedCode 0 = .ok (.aload_n 2, 1) := by decide +kernel
theorem dL_receivedCode_1 : decode cL_receivedCode 1 = .ok (.iconst 0, 1) := by decide +kernel
theorem dL_receivedCode_2 : decode cL_receivedCode 2 = .ok (.aload_n 0, 1) := by decide +kernel
theorem dL_receivedCode_3 : decode cL_receivedCode 3 = .ok (.iload_n 1, 1) := by decide +kernel
theorem dL_receivedCode_4 : decode cL_receivedCode 4 = .ok (.invokevirtual 30, 3) := by decide +kernel
theorem dL_receivedCode_7 : decode cL_receivedCode 7 = .ok (.i2l, 1) := by decide +kernel
theorem dL_receivedCode_8 : decode cL_receivedCode 8 = .ok (.lastore, 1) := by decide +kernel
theorem dL_receivedCode_9 : decode cL_receivedCode 9 = .ok (.goto 6, 3) := by decide +kernel
theorem dL_receivedCode_12 : decode cL_receivedCode 12 = .ok (.astore_n 3, 1) := by decide +kernel
theorem dL_receivedCode_13 : decode cL_receivedCode 13 = .ok (.iconst 1, 1) := by decide +kernel
theorem dL_receivedCode_14 : decode cL_receivedCode 14 = .ok (.ireturn, 1) := by decide +kernel
theorem dL_receivedCode_15 : decode cL_receivedCode 15 = .ok (.iconst 0, 1) := by decide +kernel
theorem dL_receivedCode_16 : decode cL_receivedCode 16 = .ok (.ireturn, 1) := by decide +kernel
set_option maxRecDepth 20000 in
theorem ggL_learn_X7_learn : GoodIn wsL_learn wsX7_learn := goodIn_ca (goodIn_ca (goodIn_r _ [7, 8, 9, 10, 11, 12, 13, 14, 15, 16, 17, 18, 19, 20, 21, 22, 23, 24, 25, 26, 27, 28, 29, 30, 31, 32, 33, 34, 35, 36, 37, 38, 39, 40, 41, 42, 43, 44, 45, 46, 47, 48, 49, 50, 51, 52, 53, 54, 55, 56, 57, 58, 59, 60, 61, 62, 63, 64, 65, 66, 67, 68, 69, 70, 71, 72, 73, 74, 75, 76, 77, 78, 79, 80, 81, 82, 83, 84, 85, 86, 87, 88, 89, 90, 91, 92, 93, 94, 95, 96, 97, 98, 99, 100, 101, 102, 103, 104, 105, 106, 107, 108, 109, 110, 111, 112, 113, 114, 115, 116, 117, 118, 119, 120, 121, 122, 123, 124, 125, 126, 127, 128, 129, 130, 131, 132, 133, 134, 135, 136, 137, 138, 139, 140, 141, 142, 143, 144, 145, 146, 147, 6, 148, 149, 150, 151, 152, 153, 154, 155, 156, 157, 158, 159, 160, 161, 162, 163, 164, 165, 166, 167, 168, 169, 170, 171, 172, 173, 174, 175, 176, 177, 178, 179, 180, 181, 182, 183, 184, 185, 186, 187, 188, 189, 190, 191, 192, 193, 194, 195, 196, 197, 198, 199, 200, 201, 202, 203, 204, 205, 206, 207, 208, 209, 210, 211, 212, 213, 214, 215, 216, 217, 218, 219, 220, 221, 222, 223, 224, 225, 226, 227, 228, 229, 230, 231, 232, 233, 234, 235, 236, 237, 238, 239, 240, 241, 242, 243, 244, 245, 246, 247, 248, 249, 250, 251, 252, 253, 254, 255, 256, 257, 258, 259, 260, 261, 262, 263, 264, 265, 266, 267, 268, 269, 270, 271, 272, 273, 274, 275, 276, 277, 278, 279, 280, 281, 282, 283, 284, 285, 286, 287, 288, 289, 290, 291, 292, 293, 294, 295, 296, 297, 298, 299, 300, 301, 302, 303, 304, 305, 306, 307, 308, 309, 310, 311, 312] (by decide +kernel) (by decide +kernel)) (goodIn_sub (fun _ h => List.mem_cons_of_mem _ (List.mem_append_left _ (List.mem_append_right _ h))) (by decide +kernel))) (goodIn_sub (fun _ h => List.mem_cons_of_mem _ (List.mem_append_right _ h)) (by decide +kernel))
set_option maxRecDepth 20000 in
theorem gL_learn_X7_learn : GoodIn wsL_learn (wsV RL 33 RX7 yX7_learn wsX7_learn) := goodIn_app (goodIn_of _ (by decide +kernel)) ggL_learn_X7_learn
theorem dL_learn_0 : decode cL_learn 0 = .ok (.aload_n 1, 1) := by decide +kernel
theorem dL_learn_1 : decode cL_learn 1 = .ok (.iconst 0, 1) := by decide +kernel
theorem dL_learn_2 : decode cL_learn 2 = .ok (.aload_n 0, 1) := by decide +kernel
theorem dL_learn_3 : decode cL_learn 3 = .ok (.invokevirtual 33, 3) := by decide +kernel
theorem dL_learn_6 : decode cL_learn 6 = .ok (.i2l, 1) := by decide +kernel
theorem dL_learn_7 : decode cL_learn 7 = .ok (.lastore, 1) := by decide +kernel
theorem dL_learn_8 : decode cL_learn 8 = .ok (.goto 9, 3) := by decide +kernel
theorem dL_learn_11 : decode cL_learn 11 = .ok (.astore_n 2, 1) := by decide +kernel
theorem dL_learn_12 : decode cL_learn 12 = .ok (.iconst 1, 1) := by decide +kernel
theorem dL_learn_13 : decode cL_learn 13 = .ok (.ireturn, 1) := by decide +kernel
theorem dL_learn_14 : decode cL_learn 14 = .ok (.astore_n 2, 1) := by decide +kernel
theorem dL_learn_15 : decode cL_learn 15 = .ok (.iconst 2, 1) := by decide +kernel
theorem dL_learn_16 : decode cL_learn 16 = .ok (.ireturn, 1) := by decide +kernel
theorem dL_learn_17 : decode cL_learn 17 = .ok (.iconst 0, 1) := by decide +kernel
theorem dL_learn_18 : decode cL_learn 18 = .ok (.ireturn, 1) := by decide +kernel
set_option maxRecDepth 20000 in
theorem ggL_forget_X7_forget : GoodIn wsL_forget wsX7_forget := goodIn_ca (goodIn_r _ [6, 7, 8, 9, 10, 11, 12, 13, 14, 15, 16, 17, 18, 19, 20, 21, 22, 23, 24, 25, 26, 27, 28, 29, 30, 31, 32, 33, 34, 35, 36, 37, 38, 39, 40, 41, 42, 43, 44, 45, 46, 47, 48, 49, 50, 51, 52, 53, 54, 55, 56, 57, 58, 59, 60, 61, 62, 63, 64, 65, 66, 67, 68, 69, 70, 71, 72, 73, 74, 75, 76, 77, 78, 79, 80, 81, 82, 83, 84, 85, 86, 87, 88, 5, 89, 90, 91, 92, 93, 94, 95, 96, 97, 98, 99, 100, 101, 102, 103, 104, 105, 106, 107, 108, 109, 110, 111, 112, 113, 114, 115, 116, 117, 118, 119, 120, 121, 122, 123, 124, 125, 126, 127, 128, 129, 130, 131, 132, 133, 134, 135, 136, 137, 138, 139, 140, 141, 142, 143, 144, 145, 146, 147, 148, 149, 150, 151, 152, 153, 154, 155, 156, 157, 158, 159, 160, 161, 162, 163, 164, 165, 166, 167, 168, 169, 170, 171, 172, 173, 174, 175, 176, 177, 178, 179, 180, 181, 182, 183, 184, 185, 186, 187, 188, 189, 190, 191, 192, 193, 194, 195, 196, 197, 198, 199, 200, 201, 202, 203, 204, 205, 206, 207, 208, 209, 210, 211, 212, 213, 214, 215, 216, 217, 218, 219, 220, 221, 222, 223, 224, 225, 226, 227, 228, 229, 230, 231, 232, 233, 234, 235, 236, 237, 238, 239, 240, 241, 242] (by decide +kernel) (by decide +kernel)) (goodIn_sub (fun _ h => List.mem_cons_of_mem _ (List.mem_append_right _ h)) (by decide +kernel))
set_option maxRecDepth 20000 in
theorem gL_forget_X7_forget : GoodIn wsL_forget (wsV RL 36 RX7 yX7_forget wsX7_forget) := goodIn_app (goodIn_of _ (by decide +kernel)) ggL_forget_X7_forget
theorem dL_forget_0 : decode cL_forget 0 = .ok (.aload_n 2, 1) := by decide +kernel
theorem dL_forget_1 : decode cL_forget 1 = .ok (.iconst 0, 1) := by decide +kernel
theorem dL_forget_2 : decode cL_forget 2 = .ok (.aload_n 0, 1) := by decide +kernel
theorem dL_forget_3 : decode cL_forget 3 = .ok (.iload_n 1, 1) := by decide +kernel
theorem dL_forget_4 : decode cL_forget 4 = .ok (.invokevirtual 36, 3) := by decide +kernel
theorem dL_forget_7 : decode cL_forget 7 = .ok (.i2l, 1) := by decide +kernel
theorem dL_forget_8 : decode cL_forget 8 = .ok (.lastore, 1) := by decide +kernel
theorem dL_forget_9 : decode cL_forget 9 = .ok (.goto 6, 3) := by decide +kernel
theorem dL_forget_12 : decode cL_forget 12 = .ok (.astore_n 3, 1) := by decide +kernel
theorem dL_forget_13 : decode cL_forget 13 = .ok (.iconst 1, 1) := by decide +kernel
theorem dL_forget_14 : decode cL_forget 14 = .ok (.ireturn, 1) := by decide +kernel
theorem dL_forget_15 : decode cL_forget 15 = .ok (.iconst 0, 1) := by decide +kernel
theorem dL_forget_16 : decode cL_forget 16 = .ok (.ireturn, 1) := by decide +kernel
set_option maxRecDepth 20000 in
theorem ggL_wordLetter_X7_wordLetter : GoodIn wsL_wordLetter wsX7_wordLetter := goodIn_ca (goodIn_r _ [6, 7, 8, 9, 10, 11, 12, 13, 14, 15, 16, 17, 18, 19, 20, 21, 22, 23, 24, 25, 26, 27, 28, 29, 30, 31, 32, 33, 34, 35, 36, 37, 38, 39, 40, 41, 42, 43, 44, 45, 46, 47, 48, 49, 50, 51, 52, 53, 54, 55, 56, 57, 58, 59, 60, 61, 62, 63, 64, 65, 66, 67, 68, 69, 70, 71, 72, 73, 74, 75, 76, 77, 78, 79, 80, 81, 82, 83, 84, 85, 86, 87, 88, 89, 90, 91] (by decide +kernel) (by decide +kernel)) (goodIn_sub (fun _ h => List.mem_cons_of_mem _ (List.mem_append_right _ h)) (by decide +kernel))
set_option maxRecDepth 20000 in
theorem gL_wordLetter_X7_wordLetter : GoodIn wsL_wordLetter (wsV RL 39 RX7 yX7_wordLetter wsX7_wordLetter) := goodIn_app (goodIn_of _ (by decide +kernel)) ggL_wordLetter_X7_wordLetter
theorem dL_wordLetter_0 : decode cL_wordLetter 0 = .ok (.aload_n 3, 1) := by decide +kernel
theorem dL_wordLetter_1 : decode cL_wordLetter 1 = .ok (.iconst 0, 1) := by decide +kernel
theorem dL_wordLetter_2 : decode cL_wordLetter 2 = .ok (.aload_n 0, 1) := by decide +kernel
theorem dL_wordLetter_3 : decode cL_wordLetter 3 = .ok (.iload_n 1, 1) := by decide +kernel
theorem dL_wordLetter_4 : decode cL_wordLetter 4 = .ok (.iload_n 2, 1) := by decide +kernel
theorem dL_wordLetter_5 : decode cL_wordLetter 5 = .ok (.invokevirtual 39, 3) := by decide +kernel
theorem dL_wordLetter_8 : decode cL_wordLetter 8 = .ok (.i2l, 1) := by decide +kernel
theorem dL_wordLetter_9 : decode cL_wordLetter 9 = .ok (.lastore, 1) := by decide +kernel
theorem dL_wordLetter_10 : decode cL_wordLetter 10 = .ok (.goto 7, 3) := by decide +kernel
theorem dL_wordLetter_13 : decode cL_wordLetter 13 = .ok (.astore 4, 2) := by decide +kernel
theorem dL_wordLetter_15 : decode cL_wordLetter 15 = .ok (.iconst 1, 1) := by decide +kernel
theorem dL_wordLetter_16 : decode cL_wordLetter 16 = .ok (.ireturn, 1) := by decide +kernel
theorem dL_wordLetter_17 : decode cL_wordLetter 17 = .ok (.iconst 0, 1) := by decide +kernel
theorem dL_wordLetter_18 : decode cL_wordLetter 18 = .ok (.ireturn, 1) := by decide +kernel
set_option maxRecDepth 20000 in
theorem ggL_uses_X7_uses : GoodIn wsL_uses wsX7_uses := goodIn_ca (goodIn_r _ [6, 7, 8, 9, 10, 11, 12, 13, 14, 15, 16, 17, 18, 19, 20, 21, 22, 23, 24, 25, 26, 27, 28, 29, 30, 31, 32, 33, 34, 35, 36, 37, 38, 39, 40, 41] (by decide +kernel) (by decide +kernel)) (goodIn_sub (fun _ h => List.mem_cons_of_mem _ (List.mem_append_right _ h)) (by decide +kernel))
set_option maxRecDepth 20000 in
theorem gL_uses_X7_uses : GoodIn wsL_uses (wsV RL 42 RX7 yX7_uses wsX7_uses) := goodIn_app (goodIn_of _ (by decide +kernel)) ggL_uses_X7_uses
theorem dL_uses_0 : decode cL_uses 0 = .ok (.aload_n 2, 1) := by decide +kernel
theorem dL_uses_1 : decode cL_uses 1 = .ok (.iconst 0, 1) := by decide +kernel
theorem dL_uses_2 : decode cL_uses 2 = .ok (.aload_n 0, 1) := by decide +kernel
theorem dL_uses_3 : decode cL_uses 3 = .ok (.iload_n 1, 1) := by decide +kernel
theorem dL_uses_4 : decode cL_uses 4 = .ok (.invokevirtual 42, 3) := by decide +kernel
theorem dL_uses_7 : decode cL_uses 7 = .ok (.i2l, 1) := by decide +kernel
theorem dL_uses_8 : decode cL_uses 8 = .ok (.lastore, 1) := by decide +kernel
theorem dL_uses_9 : decode cL_uses 9 = .ok (.goto 6, 3) := by decide +kernel
theorem dL_uses_12 : decode cL_uses 12 = .ok (.astore_n 3, 1) := by decide +kernel
theorem dL_uses_13 : decode cL_uses 13 = .ok (.iconst 1, 1) := by decide +kernel
theorem dL_uses_14 : decode cL_uses 14 = .ok (.ireturn, 1) := by decide +kernel
theorem dL_uses_15 : decode cL_uses 15 = .ok (.iconst 0, 1) := by decide +kernel
theorem dL_uses_16 : decode cL_uses 16 = .ok (.ireturn, 1) := by decide +kernel
set_option maxRecDepth 20000 in
theorem ggL_printed_X7_printed : GoodIn wsL_printed wsX7_printed := goodIn_ca (goodIn_r _ [6, 7, 8, 9, 10, 11, 12, 13, 14, 15, 16, 17, 18, 19, 20, 21, 22, 23, 24, 25, 26, 27, 28, 29, 30, 31, 32, 33, 34, 35] (by decide +kernel) (by decide +kernel)) (goodIn_sub (fun _ h => List.mem_cons_of_mem _ (List.mem_append_right _ h)) (by decide +kernel))
set_option maxRecDepth 20000 in
theorem gL_printed_X7_printed : GoodIn wsL_printed (wsV RL 45 RX7 yX7_printed wsX7_printed) := goodIn_app (goodIn_of _ (by decide +kernel)) ggL_printed_X7_printed
theorem dL_printed_0 : decode cL_printed 0 = .ok (.aload_n 2, 1) := by decide +kernel
theorem dL_printed_1 : decode cL_printed 1 = .ok (.iconst 0, 1) := by decide +kernel
theorem dL_printed_2 : decode cL_printed 2 = .ok (.aload_n 0, 1) := by decide +kernel
theorem dL_printed_3 : decode cL_printed 3 = .ok (.iload_n 1, 1) := by decide +kernel
theorem dL_printed_4 : decode cL_printed 4 = .ok (.invokevirtual 45, 3) := by decide +kernel
theorem dL_printed_7 : decode cL_printed 7 = .ok (.i2l, 1) := by decide +kernel
theorem dL_printed_8 : decode cL_printed 8 = .ok (.lastore, 1) := by decide +kernel
theorem dL_printed_9 : decode cL_printed 9 = .ok (.goto 6, 3) := by decide +kernel
theorem dL_printed_12 : decode cL_printed 12 = .ok (.astore_n 3, 1) := by decide +kernel
theorem dL_printed_13 : decode cL_printed 13 = .ok (.iconst 1, 1) := by decide +kernel
theorem dL_printed_14 : decode cL_printed 14 = .ok (.ireturn, 1) := by decide +kernel
theorem dL_printed_15 : decode cL_printed 15 = .ok (.iconst 0, 1) := by decide +kernel
theorem dL_printed_16 : decode cL_printed 16 = .ok (.ireturn, 1) := by decide +kernel
set_option maxRecDepth 20000 in
theorem ggL_segmentLength_X7_segmentLength : GoodIn wsL_segmentLength wsX7_segmentLength := goodIn_ca (goodIn_r _ [6, 7, 8, 9, 10, 11, 12, 13, 14, 15, 16, 17, 18, 19, 20, 21, 22, 23, 24, 25, 26, 27, 28, 29, 30, 31, 32, 33, 34, 35] (by decide +kernel) (by decide +kernel)) (goodIn_sub (fun _ h => List.mem_cons_of_mem _ (List.mem_append_right _ h)) (by decide +kernel))
set_option maxRecDepth 20000 in
theorem gL_segmentLength_X7_segmentLength : GoodIn wsL_segmentLength (wsV RL 48 RX7 yX7_segmentLength wsX7_segmentLength) := goodIn_app (goodIn_of _ (by decide +kernel)) ggL_segmentLength_X7_segmentLength
theorem dL_segmentLength_0 : decode cL_segmentLength 0 = .ok (.aload_n 2, 1) := by decide +kernel
theorem dL_segmentLength_1 : decode cL_segmentLength 1 = .ok (.iconst 0, 1) := by decide +kernel
theorem dL_segmentLength_2 : decode cL_segmentLength 2 = .ok (.aload_n 0, 1) := by decide +kernel
theorem dL_segmentLength_3 : decode cL_segmentLength 3 = .ok (.iload_n 1, 1) := by decide +kernel
theorem dL_segmentLength_4 : decode cL_segmentLength 4 = .ok (.invokevirtual 48, 3) := by decide +kernel
theorem dL_segmentLength_7 : decode cL_segmentLength 7 = .ok (.i2l, 1) := by decide +kernel
theorem dL_segmentLength_8 : decode cL_segmentLength 8 = .ok (.lastore, 1) := by decide +kernel
theorem dL_segmentLength_9 : decode cL_segmentLength 9 = .ok (.goto 6, 3) := by decide +kernel
theorem dL_segmentLength_12 : decode cL_segmentLength 12 = .ok (.astore_n 3, 1) := by decide +kernel
theorem dL_segmentLength_13 : decode cL_segmentLength 13 = .ok (.iconst 1, 1) := by decide +kernel
theorem dL_segmentLength_14 : decode cL_segmentLength 14 = .ok (.ireturn, 1) := by decide +kernel
theorem dL_segmentLength_15 : decode cL_segmentLength 15 = .ok (.iconst 0, 1) := by decide +kernel
theorem dL_segmentLength_16 : decode cL_segmentLength 16 = .ok (.ireturn, 1) := by decide +kernel
set_option maxRecDepth 20000 in
theorem ggL_segmentKind_X7_segmentKind : GoodIn wsL_segmentKind wsX7_segmentKind := goodIn_ca (goodIn_r _ [6, 7, 8, 9, 10, 11, 12, 13, 14, 15, 16, 17, 18, 19, 20, 21, 22, 23, 24, 25, 26, 27, 28, 29, 30, 31, 32, 33, 34, 35] (by decide +kernel) (by decide +kernel)) (goodIn_sub (fun _ h => List.mem_cons_of_mem _ (List.mem_append_right _ h)) (by decide +kernel))
set_option maxRecDepth 20000 in
theorem gL_segmentKind_X7_segmentKind : GoodIn wsL_segmentKind (wsV RL 51 RX7 yX7_segmentKind wsX7_segmentKind) := goodIn_app (goodIn_of _ (by decide +kernel)) ggL_segmentKind_X7_segmentKind
theorem dL_segmentKind_0 : decode cL_segmentKind 0 = .ok (.aload_n 2, 1) := by decide +kernel
theorem dL_segmentKind_1 : decode cL_segmentKind 1 = .ok (.iconst 0, 1) := by decide +kernel
theorem dL_segmentKind_2 : decode cL_segmentKind 2 = .ok (.aload_n 0, 1) := by decide +kernel
theorem dL_segmentKind_3 : decode cL_segmentKind 3 = .ok (.iload_n 1, 1) := by decide +kernel
theorem dL_segmentKind_4 : decode cL_segmentKind 4 = .ok (.invokevirtual 51, 3) := by decide +kernel
theorem dL_segmentKind_7 : decode cL_segmentKind 7 = .ok (.i2l, 1) := by decide +kernel
theorem dL_segmentKind_8 : decode cL_segmentKind 8 = .ok (.lastore, 1) := by decide +kernel
theorem dL_segmentKind_9 : decode cL_segmentKind 9 = .ok (.goto 6, 3) := by decide +kernel
theorem dL_segmentKind_12 : decode cL_segmentKind 12 = .ok (.astore_n 3, 1) := by decide +kernel
theorem dL_segmentKind_13 : decode cL_segmentKind 13 = .ok (.iconst 1, 1) := by decide +kernel
theorem dL_segmentKind_14 : decode cL_segmentKind 14 = .ok (.ireturn, 1) := by decide +kernel
theorem dL_segmentKind_15 : decode cL_segmentKind 15 = .ok (.iconst 0, 1) := by decide +kernel
theorem dL_segmentKind_16 : decode cL_segmentKind 16 = .ok (.ireturn, 1) := by decide +kernel
set_option maxRecDepth 20000 in
theorem ggL_doubtfulWith_X7_doubtfulWith : GoodIn wsL_doubtfulWith wsX7_doubtfulWith := goodIn_ca (goodIn_ca (goodIn_r _ [7, 8, 9, 10, 11, 12, 13, 14, 6, 15, 16, 17, 18, 19, 20, 21, 22, 23, 24, 25, 26, 27, 28, 29, 30, 31, 32, 33, 34, 35, 36, 37, 38, 39, 40, 41, 42, 43, 44, 45, 46, 47, 48, 49, 50, 51, 52, 53, 54, 55, 56, 57, 58, 59, 60, 61, 62, 63, 64, 65, 66, 67, 68, 69, 70, 71, 72, 73, 74, 75, 76, 77, 78, 79, 80, 81, 82, 83, 84, 85, 86, 87, 88, 89, 90, 91, 92, 93, 94, 95, 96, 97, 98, 99, 100, 101, 102, 103, 104, 105, 106, 107, 108, 109, 110, 111, 112, 113, 114, 115] (by decide +kernel) (by decide +kernel)) (goodIn_sub (fun _ h => List.mem_cons_of_mem _ (List.mem_append_left _ (List.mem_append_right _ h))) (by decide +kernel))) (goodIn_sub (fun _ h => List.mem_cons_of_mem _ (List.mem_append_right _ h)) (by decide +kernel))
set_option maxRecDepth 20000 in
theorem gL_doubtfulWith_X7_doubtfulWith : GoodIn wsL_doubtfulWith (wsV RL 54 RX7 yX7_doubtfulWith wsX7_doubtfulWith) := goodIn_app (goodIn_of _ (by decide +kernel)) ggL_doubtfulWith_X7_doubtfulWith
theorem dL_doubtfulWith_0 : decode cL_doubtfulWith 0 = .ok (.aload_n 3, 1) := by decide +kernel
theorem dL_doubtfulWith_1 : decode cL_doubtfulWith 1 = .ok (.iconst 0, 1) := by decide +kernel
theorem dL_doubtfulWith_2 : decode cL_doubtfulWith 2 = .ok (.aload_n 0, 1) := by decide +kernel
theorem dL_doubtfulWith_3 : decode cL_doubtfulWith 3 = .ok (.iload_n 1, 1) := by decide +kernel
theorem dL_doubtfulWith_4 : decode cL_doubtfulWith 4 = .ok (.iload_n 2, 1) := by decide +kernel
theorem dL_doubtfulWith_5 : decode cL_doubtfulWith 5 = .ok (.invokevirtual 54, 3) := by decide +kernel
theorem dL_doubtfulWith_8 : decode cL_doubtfulWith 8 = .ok (.i2l, 1) := by decide +kernel
theorem dL_doubtfulWith_9 : decode cL_doubtfulWith 9 = .ok (.lastore, 1) := by decide +kernel
theorem dL_doubtfulWith_10 : decode cL_doubtfulWith 10 = .ok (.goto 11, 3) := by decide +kernel
theorem dL_doubtfulWith_13 : decode cL_doubtfulWith 13 = .ok (.astore 4, 2) := by decide +kernel
theorem dL_doubtfulWith_15 : decode cL_doubtfulWith 15 = .ok (.iconst 1, 1) := by decide +kernel
theorem dL_doubtfulWith_16 : decode cL_doubtfulWith 16 = .ok (.ireturn, 1) := by decide +kernel
theorem dL_doubtfulWith_17 : decode cL_doubtfulWith 17 = .ok (.astore 4, 2) := by decide +kernel
theorem dL_doubtfulWith_19 : decode cL_doubtfulWith 19 = .ok (.iconst 2, 1) := by decide +kernel
theorem dL_doubtfulWith_20 : decode cL_doubtfulWith 20 = .ok (.ireturn, 1) := by decide +kernel
theorem dL_doubtfulWith_21 : decode cL_doubtfulWith 21 = .ok (.iconst 0, 1) := by decide +kernel
theorem dL_doubtfulWith_22 : decode cL_doubtfulWith 22 = .ok (.ireturn, 1) := by decide +kernel
set_option maxRecDepth 20000 in
theorem ggL_undo_X7_undo : GoodIn wsL_undo wsX7_undo := goodIn_ca (goodIn_r _ [6, 7, 8, 9, 10, 11, 12, 13, 14, 15, 16, 17, 18, 19, 20, 21, 22, 23, 24, 25, 26, 27, 28, 29, 30, 31, 32, 33, 34, 35, 36, 37, 38, 39, 40, 41, 42, 43, 44, 45, 46, 47, 48, 49, 50, 51, 52, 53, 54, 55, 56, 57, 58, 59, 60, 61, 62, 63, 64, 5, 65, 66, 67, 68, 69, 70, 71, 72, 73, 74, 75, 76, 77, 78, 79, 80, 81, 82, 83, 84, 85, 86, 87, 88, 89, 90, 91, 92, 93, 94, 95, 96, 97, 98, 99, 100, 101, 102, 103, 104, 105, 106, 107, 108, 109, 110, 111, 112, 113, 114, 115, 116, 117, 118, 119, 120, 121, 122, 123, 124, 125, 126, 127, 128, 129, 130, 131, 132, 133, 134, 135, 136, 137, 138, 139, 140, 141, 142, 143, 144, 145, 146, 147, 148, 149, 150, 151, 152, 153, 154, 155, 156, 157, 158, 159, 160, 161, 162, 163, 164, 165, 166, 167, 168, 169, 170, 171, 172, 173, 174, 175, 176, 177, 178, 179, 180, 181, 182, 183, 184, 185, 186, 187, 188, 189, 190, 191, 192, 193, 194, 195, 196, 197, 198, 199, 200, 201, 202, 203, 204, 205, 206, 207, 208, 209, 210, 211, 212, 213, 214, 215, 216, 217, 218, 219, 220, 221, 222, 223, 224] (by decide +kernel) (by decide +kernel)) (goodIn_sub (fun _ h => List.mem_cons_of_mem _ (List.mem_append_right _ h)) (by decide +kernel))
set_option maxRecDepth 20000 in
theorem gL_undo_X7_undo : GoodIn wsL_undo (wsV RL 57 RX7 yX7_undo wsX7_undo) := goodIn_app (goodIn_of _ (by decide +kernel)) ggL_undo_X7_undo
theorem dL_undo_0 : decode cL_undo 0 = .ok (.aload_n 1, 1) := by decide +kernel
theorem dL_undo_1 : decode cL_undo 1 = .ok (.iconst 0, 1) := by decide +kernel
theorem dL_undo_2 : decode cL_undo 2 = .ok (.aload_n 0, 1) := by decide +kernel
theorem dL_undo_3 : decode cL_undo 3 = .ok (.invokevirtual 57, 3) := by decide +kernel
theorem dL_undo_6 : decode cL_undo 6 = .ok (.i2l, 1) := by decide +kernel
theorem dL_undo_7 : decode cL_undo 7 = .ok (.lastore, 1) := by decide +kernel
theorem dL_undo_8 : decode cL_undo 8 = .ok (.goto 6, 3) := by decide +kernel
theorem dL_undo_11 : decode cL_undo 11 = .ok (.astore_n 2, 1) := by decide +kernel
theorem dL_undo_12 : decode cL_undo 12 = .ok (.iconst 1, 1) := by decide +kernel
theorem dL_undo_13 : decode cL_undo 13 = .ok (.ireturn, 1) := by decide +kernel
theorem dL_undo_14 : decode cL_undo 14 = .ok (.iconst 0, 1) := by decide +kernel
theorem dL_undo_15 : decode cL_undo 15 = .ok (.ireturn, 1) := by decide +kernel
set_option maxRecDepth 20000 in
theorem ggL_law_X7_init : GoodIn wsL_law wsX7_init := goodIn_r _ [9, 10, 11, 12, 13, 14, 15, 16, 17, 18, 19, 20, 21, 22, 23, 24, 25, 26, 27, 28, 29, 30, 31, 32, 33, 34, 35, 36, 37, 38, 39, 40, 41, 42, 43, 44, 45, 46, 47, 48, 49, 50, 51, 52, 53, 54, 55, 56, 57, 58, 59, 60, 61, 62, 63, 64, 65, 66, 67, 68, 69, 70, 71, 72, 73, 74, 75, 76, 77, 78, 79, 80, 81, 82, 83, 84, 85, 86, 87, 88, 89, 90, 91, 92, 93, 94, 95, 96, 97, 98, 901, 902, 879, 880, 881, 882, 883, 903, 904, 905, 906, 907, 908, 909, 910, 911, 912, 913, 914, 915, 916, 917, 918, 919, 920, 921, 922, 923, 924, 925, 926] (by decide +kernel) (by decide +kernel)
set_option maxRecDepth 20000 in
theorem gL_law_X7_init : GoodIn wsL_law (wsX7_init) := ggL_law_X7_init
set_option maxRecDepth 20000 in
theorem ggL_law_X8_init : GoodIn wsL_law wsX8_init := goodIn_r _ [101, 102, 11, 12, 41, 103, 104, 105, 106, 107, 108, 109, 110, 111, 884, 885, 886, 887, 888, 889, 890, 891, 892, 893, 894, 895, 896, 897, 898, 899, 900] (by decide +kernel) (by decide +kernel)
set_option maxRecDepth 20000 in
theorem gL_law_X8_init : GoodIn wsL_law (wsX8_init) := ggL_law_X8_init
set_option maxRecDepth 20000 in
theorem ggL_law_L_append : GoodIn wsL_law wsL_append := goodIn_ca (goodIn_ca (goodIn_r _ [115, 116, 117, 118, 119, 120, 2, 121, 122, 123, 124, 125, 16, 126, 127, 128, 129, 130, 131, 132, 133, 134, 135, 136, 137, 138, 139, 140, 141, 142, 143, 144, 145, 146, 147, 148, 149, 150, 151, 152, 153, 154, 155, 156, 157, 158, 159, 160, 161, 162, 163, 164, 38, 39, 40, 165, 166, 167, 168, 169, 170, 171, 172, 173, 174, 175, 176, 177, 178, 179, 180, 181, 182, 183, 184, 185, 186, 187, 188, 189, 190, 191, 192, 193, 194, 195, 196, 197, 198, 199, 200, 201, 202, 203, 204, 205, 206, 207, 208, 209, 210, 211, 212, 213, 214, 215, 216, 217, 218, 219, 220, 221, 222, 223, 224, 15, 225, 63, 226, 65, 66, 67, 42, 879, 880, 881, 882, 883, 901, 902] (by decide +kernel) (by decide +kernel)) (goodIn_sub (fun _ h => List.mem_append_left _ (List.mem_append_left _ (List.mem_append_right _ h))) (by decide +kernel))) (goodIn_sub (fun _ h => List.mem_append_left _ (List.mem_append_right _ h)) (by decide +kernel))
set_option maxRecDepth 20000 in
theorem gL_law_L_append : GoodIn wsL_law (va_wsS RL 64 yL_append wsL_append) := goodIn_app (goodIn_of _ (by decide +kernel)) ggL_law_L_append
set_option maxRecDepth 20000 in
theorem ggL_law_X8_append : GoodIn wsL_law wsX8_append := goodIn_r _ [230, 231, 105, 232, 233, 5, 234, 235, 236, 237, 238, 239, 240, 241, 242, 243, 244, 245, 246, 247, 248, 249, 250, 251, 884, 885, 886, 887, 888, 889, 890, 891, 892, 893, 894, 895, 896, 897, 898, 899, 900] (by decide +kernel) (by decide +kernel)
set_option maxRecDepth 20000 in
theorem gL_law_X8_append : GoodIn wsL_law (wsV RL 69 RX8 yX8_append wsX8_append) := goodIn_app (goodIn_of _ (by decide +kernel)) ggL_law_X8_append
set_option maxRecDepth 20000 in
theorem ggL_law_X8_thrown : GoodIn wsL_law wsX8_thrown := goodIn_r _ [255, 251, 884, 885, 886, 887, 888, 889, 890, 891, 892, 893, 894, 895, 896, 897, 898, 899, 900] (by decide +kernel) (by decide +kernel)
set_option maxRecDepth 20000 in
theorem gL_law_X8_thrown : GoodIn wsL_law (wsV RL 70 RX8 yX8_thrown wsX8_thrown) := goodIn_app (goodIn_of _ (by decide +kernel)) ggL_law_X8_thrown
set_option maxRecDepth 20000 in
theorem ggL_law_X7_clearBuffer : GoodIn wsL_law wsX7_clearBuffer := goodIn_r _ [259, 16, 222, 223, 224, 15, 225, 63, 260, 60, 61, 62, 879, 880, 881, 882, 883, 901, 902] (by decide +kernel) (by decide +kernel)
set_option maxRecDepth 20000 in
theorem gL_law_X7_clearBuffer : GoodIn wsL_law (wsV RL 73 RX7 yX7_clearBuffer wsX7_clearBuffer) := goodIn_app (goodIn_of _ (by decide +kernel)) ggL_law_X7_clearBuffer
set_option maxRecDepth 20000 in
theorem ggL_law_X8_clearBuffer : GoodIn wsL_law wsX8_clearBuffer := goodIn_r _ [264, 251, 231, 884, 885, 886, 887, 888, 889, 890, 891, 892, 893, 894, 895, 896, 897, 898, 899, 900] (by decide +kernel) (by decide +kernel)
set_option maxRecDepth 20000 in
theorem gL_law_X8_clearBuffer : GoodIn wsL_law (wsV RL 76 RX8 yX8_clearBuffer wsX8_clearBuffer) := goodIn_app (goodIn_of _ (by decide +kernel)) ggL_law_X8_clearBuffer
set_option maxRecDepth 20000 in
theorem ggL_law_X7_codesToSend : GoodIn wsL_law wsX7_codesToSend := goodIn_r _ [268, 20, 16, 269, 270, 271, 19, 272, 52, 53, 273, 274, 60, 61, 15, 62, 63, 275, 223, 224, 225, 276, 277, 278, 279, 42, 280, 281, 282, 283, 284, 285, 128, 286, 130, 131, 132, 287, 65, 66, 67, 288, 127, 129, 133, 134, 135, 136, 137, 138, 139, 140, 141, 142, 143, 144, 145, 146, 147, 148, 149, 150, 151, 152, 153, 154, 155, 156, 157, 158, 159, 160, 161, 162, 163, 164, 38, 39, 40, 165, 166, 167, 168, 169, 170, 171, 172, 173, 174, 175, 176, 177, 178, 179, 180, 181, 182, 183, 184, 185, 186, 187, 188, 189, 190, 191, 192, 193, 194, 195, 196, 197, 198, 199, 200, 201, 202, 203, 204, 205, 206, 207, 208, 209, 210, 211, 212, 213, 214, 215, 216, 217, 218, 219, 220, 221, 289, 290, 291, 222, 879, 880, 881, 882, 883, 903, 904, 905, 906, 907, 908, 909, 901, 902] (by decide +kernel) (by decide +kernel)
set_option maxRecDepth 20000 in
theorem gL_law_X7_codesToSend : GoodIn wsL_law (wsV RL 77 RX7 yX7_codesToSend wsX7_codesToSend) := goodIn_app (goodIn_of _ (by decide +kernel)) ggL_law_X7_codesToSend
set_option maxRecDepth 20000 in
theorem ggL_law_X8_codesToSend : GoodIn wsL_law wsX8_codesToSend := goodIn_r _ [295, 251, 296, 297, 298, 5, 299, 103, 231, 105, 300, 301, 302, 235, 236, 237, 238, 239, 240, 884, 885, 886, 887, 888, 889, 890, 891, 892, 893, 894, 895, 896, 897, 898, 899, 900] (by decide +kernel) (by decide +kernel)
set_option maxRecDepth 20000 in
theorem gL_law_X8_codesToSend : GoodIn wsL_law (wsV RL 80 RX8 yX8_codesToSend wsX8_codesToSend) := goodIn_app (goodIn_of _ (by decide +kernel)) ggL_law_X8_codesToSend
set_option maxRecDepth 20000 in
theorem ggL_law_L_send : GoodIn wsL_law wsL_send := goodIn_ca (goodIn_r _ [305, 117, 306, 307, 308, 2, 309, 124, 125, 16, 32, 20, 24, 222, 223, 224, 15, 225, 63, 310, 311, 312, 313, 314, 266, 267, 268, 269, 270, 271, 19, 272, 52, 53, 273, 274, 60, 61, 62, 275, 276, 277, 278, 279, 42, 280, 281, 282, 283, 284, 285, 128, 286, 130, 131, 132, 287, 65, 66, 67, 288, 127, 129, 133, 134, 135, 136, 137, 138, 139, 140, 141, 142, 143, 144, 145, 146, 147, 148, 149, 150, 151, 152, 153, 154, 155, 156, 157, 158, 159, 160, 161, 162, 163, 164, 38, 39, 40, 165, 166, 167, 168, 169, 170, 171, 172, 173, 174, 175, 176, 177, 178, 179, 180, 181, 182, 183, 184, 185, 186, 187, 188, 189, 190, 191, 192, 193, 194, 195, 196, 197, 198, 199, 200, 201, 202, 203, 204, 205, 206, 207, 208, 209, 210, 211, 212, 213, 214, 215, 216, 217, 218, 219, 220, 221, 289, 290, 291, 315, 316, 317, 31, 318, 319, 89, 320, 321, 322, 323, 324, 325, 326, 327, 328, 329, 330, 91, 331, 96, 97, 332, 333, 334, 335, 336, 337, 338, 339, 340, 59, 341, 64, 342, 343, 344, 345, 346, 347, 348, 349, 350, 48, 351, 352, 353, 354, 355, 51, 49, 50, 260, 356, 357, 358, 359, 28, 360, 361, 362, 27, 363, 364, 365, 366, 367, 78, 79, 80, 81, 82, 368, 369, 370, 371, 372, 373, 374, 375, 376, 377, 378, 379, 380, 381, 382, 23, 383, 384, 385, 386, 387, 388, 389, 390, 391, 392, 393, 394, 395, 396, 397, 398, 399, 72, 400, 401, 402, 403, 404, 405, 406, 407, 408, 409, 410, 411, 412, 413, 414, 415, 416, 417, 418, 419, 420, 421, 422, 423, 424, 425, 426, 427, 428, 429, 430, 431, 432, 433, 434, 435, 436, 437, 438, 439, 440, 441, 442, 443, 444, 879, 880, 881, 882, 883, 901, 902, 903, 904, 905, 906, 907, 908, 909, 918, 919, 920, 921, 922, 923, 924, 925, 926, 910, 911, 912, 913, 914, 915, 916, 917] (by decide +kernel) (by decide +kernel)) (goodIn_sub (fun _ h => List.mem_append_left _ (List.mem_append_right _ h)) (by decide +kernel))
set_option maxRecDepth 20000 in
theorem gL_law_L_send : GoodIn wsL_law (va_wsS RL 81 yL_send wsL_send) := goodIn_app (goodIn_of _ (by decide +kernel)) ggL_law_L_send
set_option maxRecDepth 20000 in
theorem ggL_law_X8_send : GoodIn wsL_law wsX8_send := goodIn_r _ [448, 231, 103, 105, 296, 297, 298, 5, 299, 300, 301, 302, 235, 236, 237, 238, 239, 240, 247, 248, 249, 250, 251, 449, 450, 451, 452, 453, 104, 454, 455, 456, 457, 232, 233, 234, 241, 242, 243, 244, 245, 246, 884, 885, 886, 887, 888, 889, 890, 891, 892, 893, 894, 895, 896, 897, 898, 899, 900] (by decide +kernel) (by decide +kernel)
set_option maxRecDepth 20000 in
theorem gL_law_X8_send : GoodIn wsL_law (wsV RL 84 RX8 yX8_send wsX8_send) := goodIn_app (goodIn_of _ (by decide +kernel)) ggL_law_X8_send
set_option maxRecDepth 20000 in
theorem ggL_law_L_setFault : GoodIn wsL_law wsL_setFault := goodIn_ca (goodIn_ca (goodIn_r _ [460, 461, 116, 462, 463, 464, 2, 465, 466, 467, 122, 123, 20, 32, 24, 468, 281, 282, 15, 283, 63, 42, 315, 316, 317, 31, 318, 319, 89, 320, 321, 322, 323, 324, 325, 326, 327, 328, 329, 330, 91, 331, 96, 97, 332, 333, 334, 335, 336, 337, 338, 339, 340, 59, 60, 61, 62, 341, 277, 278, 279, 280, 64, 65, 66, 67, 342, 223, 224, 225, 469, 470, 471, 472, 473, 879, 880, 881, 882, 883, 903, 904, 905, 906, 907, 908, 909, 901, 902, 918, 919, 920, 921, 922, 923, 924, 925, 926, 910] (by decide +kernel) (by decide +kernel)) (goodIn_sub (fun _ h => List.mem_append_right _ h) (by decide +kernel))) (goodIn_sub (fun _ h => List.mem_append_left _ (List.mem_append_left _ (List.mem_append_right _ h))) (by decide +kernel))
set_option maxRecDepth 20000 in
theorem gL_law_L_setFault : GoodIn wsL_law (va_wsS RL 85 yL_setFault wsL_setFault) := goodIn_app (goodIn_of _ (by decide +kernel)) ggL_law_L_setFault
set_option maxRecDepth 20000 in
theorem ggL_law_X8_setFault : GoodIn wsL_law wsX8_setFault := goodIn_r _ [477, 103, 238, 239, 5, 240, 247, 248, 249, 250, 251, 449, 450, 451, 452, 453, 104, 884, 885, 886, 887, 888, 889, 890, 891, 892, 893, 894, 895, 896, 897, 898, 899, 900] (by decide +kernel) (by decide +kernel)
set_option maxRecDepth 20000 in
theorem gL_law_X8_setFault : GoodIn wsL_law (wsV RL 88 RX8 yX8_setFault wsX8_setFault) := goodIn_app (goodIn_of _ (by decide +kernel)) ggL_law_X8_setFault
set_option maxRecDepth 20000 in
theorem ggL_law_X7_sent : GoodIn wsL_law wsX7_sent := goodIn_r _ [313, 20, 222, 223, 224, 15, 225, 63, 879, 880, 881, 882, 883, 903, 904, 905, 906, 907, 908, 909, 901, 902] (by decide +kernel) (by decide +kernel)
set_option maxRecDepth 20000 in
theorem gL_law_X7_sent : GoodIn wsL_law (wsV RL 89 RX7 yX7_sent wsX7_sent) := goodIn_app (goodIn_of _ (by decide +kernel)) ggL_law_X7_sent
set_option maxRecDepth 20000 in
theorem ggL_law_X8_sent : GoodIn wsL_law wsX8_sent := goodIn_r _ [482, 251, 103, 884, 885, 886, 887, 888, 889, 890, 891, 892, 893, 894, 895, 896, 897, 898, 899, 900] (by decide +kernel) (by decide +kernel)
set_option maxRecDepth 20000 in
theorem gL_law_X8_sent : GoodIn wsL_law (wsV RL 92 RX8 yX8_sent wsX8_sent) := goodIn_app (goodIn_of _ (by decide +kernel)) ggL_law_X8_sent
set_option maxRecDepth 20000 in
theorem ggL_law_X7_received : GoodIn wsL_law wsX7_received := goodIn_r _ [346, 20, 222, 223, 224, 15, 225, 63, 879, 880, 881, 882, 883, 903, 904, 905, 906, 907, 908, 909, 901, 902] (by decide +kernel) (by decide +kernel)
set_option maxRecDepth 20000 in
theorem gL_law_X7_received : GoodIn wsL_law (wsV RL 93 RX7 yX7_received wsX7_received) := goodIn_app (goodIn_of _ (by decide +kernel)) ggL_law_X7_received
set_option maxRecDepth 20000 in
theorem ggL_law_X8_received : GoodIn wsL_law wsX8_received := goodIn_r _ [487, 251, 103, 884, 885, 886, 887, 888, 889, 890, 891, 892, 893, 894, 895, 896, 897, 898, 899, 900] (by decide +kernel) (by decide +kernel)
set_option maxRecDepth 20000 in
theorem gL_law_X8_received : GoodIn wsL_law (wsV RL 96 RX8 yX8_received wsX8_received) := goodIn_app (goodIn_of _ (by decide +kernel)) ggL_law_X8_received
set_option maxRecDepth 20000 in
theorem ggL_law_L_sentCode : GoodIn wsL_law wsL_sentCode := goodIn_ca (goodIn_r _ [490, 461, 491, 492, 493, 2, 494, 466, 467, 20, 468, 281, 282, 15, 283, 63, 42, 469, 277, 278, 279, 280, 879, 880, 881, 882, 883, 903, 904, 905, 906, 907, 908, 909, 901, 902] (by decide +kernel) (by decide +kernel)) (goodIn_sub (fun _ h => List.mem_append_right _ h) (by decide +kernel))
set_option maxRecDepth 20000 in
theorem gL_law_L_sentCode : GoodIn wsL_law (va_wsS RL 97 yL_sentCode wsL_sentCode) := goodIn_app (goodIn_of _ (by decide +kernel)) ggL_law_L_sentCode
set_option maxRecDepth 20000 in
theorem ggL_law_X8_sentCode : GoodIn wsL_law wsX8_sentCode := goodIn_r _ [498, 103, 238, 239, 5, 240, 247, 248, 249, 250, 251, 884, 885, 886, 887, 888, 889, 890, 891, 892, 893, 894, 895, 896, 897, 898, 899, 900] (by decide +kernel) (by decide +kernel)
set_option maxRecDepth 20000 in
theorem gL_law_X8_sentCode : GoodIn wsL_law (wsV RL 99 RX8 yX8_sentCode wsX8_sentCode) := goodIn_app (goodIn_of _ (by decide +kernel)) ggL_law_X8_sentCode
set_option maxRecDepth 20000 in
theorem ggL_law_L_receivedCode : GoodIn wsL_law wsL_receivedCode := goodIn_ca (goodIn_r _ [501, 461, 502, 503, 504, 2, 505, 466, 467, 20, 468, 281, 282, 15, 283, 63, 42, 469, 277, 278, 279, 280, 879, 880, 881, 882, 883, 903, 904, 905, 906, 907, 908, 909, 901, 902] (by decide +kernel) (by decide +kernel)) (goodIn_sub (fun _ h => List.mem_append_right _ h) (by decide +kernel))
set_option maxRecDepth 20000 in
theorem gL_law_L_receivedCode : GoodIn wsL_law (va_wsS RL 100 yL_receivedCode wsL_receivedCode) := goodIn_app (goodIn_of _ (by decide +kernel)) ggL_law_L_receivedCode
set_option maxRecDepth 20000 in
theorem ggL_law_X8_receivedCode : GoodIn wsL_law wsX8_receivedCode := goodIn_r _ [509, 103, 238, 239, 5, 240, 247, 248, 249, 250, 251, 884, 885, 886, 887, 888, 889, 890, 891, 892, 893, 894, 895, 896, 897, 898, 899, 900] (by decide +kernel) (by decide +kernel)
set_option maxRecDepth 20000 in
theorem gL_law_X8_receivedCode : GoodIn wsL_law (wsV RL 102 RX8 yX8_receivedCode wsX8_receivedCode) := goodIn_app (goodIn_of _ (by decide +kernel)) ggL_law_X8_receivedCode
set_option maxRecDepth 20000 in
theorem ggL_law_X7_senderShift : GoodIn wsL_law wsX7_senderShift := goodIn_r _ [513, 20, 879, 880, 881, 882, 883, 903, 904, 905, 906, 907, 908, 909] (by decide +kernel) (by decide +kernel)
set_option maxRecDepth 20000 in
theorem gL_law_X7_senderShift : GoodIn wsL_law (wsV RL 103 RX7 yX7_senderShift wsX7_senderShift) := goodIn_app (goodIn_of _ (by decide +kernel)) ggL_law_X7_senderShift
set_option maxRecDepth 20000 in
theorem ggL_law_X8_senderShift : GoodIn wsL_law wsX8_senderShift := goodIn_r _ [517, 251, 103, 884, 885, 886, 887, 888, 889, 890, 891, 892, 893, 894, 895, 896, 897, 898, 899, 900] (by decide +kernel) (by decide +kernel)
set_option maxRecDepth 20000 in
theorem gL_law_X8_senderShift : GoodIn wsL_law (wsV RL 106 RX8 yX8_senderShift wsX8_senderShift) := goodIn_app (goodIn_of _ (by decide +kernel)) ggL_law_X8_senderShift
set_option maxRecDepth 20000 in
theorem ggL_law_X7_faults : GoodIn wsL_law wsX7_faults := goodIn_r _ [521, 20, 522, 523, 524, 15, 525, 63, 341, 277, 278, 279, 42, 280, 281, 282, 283, 879, 880, 881, 882, 883, 903, 904, 905, 906, 907, 908, 909, 901, 902] (by decide +kernel) (by decide +kernel)
set_option maxRecDepth 20000 in
theorem gL_law_X7_faults : GoodIn wsL_law (wsV RL 107 RX7 yX7_faults wsX7_faults) := goodIn_app (goodIn_of _ (by decide +kernel)) ggL_law_X7_faults
set_option maxRecDepth 20000 in
theorem ggL_law_X8_faults : GoodIn wsL_law wsX8_faults := goodIn_r _ [529, 251, 530, 531, 532, 5, 533, 103, 884, 885, 886, 887, 888, 889, 890, 891, 892, 893, 894, 895, 896, 897, 898, 899, 900] (by decide +kernel) (by decide +kernel)
set_option maxRecDepth 20000 in
theorem gL_law_X8_faults : GoodIn wsL_law (wsV RL 110 RX8 yX8_faults wsX8_faults) := goodIn_app (goodIn_of _ (by decide +kernel)) ggL_law_X8_faults
set_option maxRecDepth 20000 in
theorem ggL_law_X7_unshiftOnSpace : GoodIn wsL_law wsX7_unshiftOnSpace := goodIn_r _ [537, 32, 20, 24, 315, 316, 317, 31, 318, 319, 89, 320, 321, 322, 323, 324, 325, 326, 327, 328, 329, 330, 91, 331, 96, 97, 332, 333, 334, 335, 336, 337, 338, 339, 15, 340, 63, 59, 60, 61, 62, 341, 277, 278, 279, 42, 280, 281, 282, 283, 64, 65, 66, 67, 342, 223, 224, 225, 356, 357, 358, 2, 359, 28, 360, 361, 362, 27, 363, 364, 365, 366, 367, 78, 79, 80, 81, 82, 368, 369, 370, 371, 372, 373, 374, 128, 375, 376, 377, 378, 379, 380, 381, 382, 23, 383, 384, 385, 386, 387, 388, 389, 390, 391, 392, 393, 394, 395, 396, 397, 398, 399, 72, 400, 401, 402, 403, 404, 405, 406, 407, 408, 409, 410, 411, 412, 413, 414, 415, 416, 417, 418, 419, 153, 154, 139, 155, 145, 156, 157, 158, 159, 150, 151, 420, 421, 422, 423, 146, 147, 148, 149, 424, 425, 162, 426, 427, 428, 429, 193, 430, 431, 196, 432, 433, 434, 176, 435, 436, 437, 438, 187, 188, 189, 439, 201, 202, 203, 204, 205, 206, 440, 441, 442, 443, 444, 290, 291, 879, 880, 881, 882, 883, 903, 904, 905, 906, 907, 908, 909, 918, 919, 920, 921, 922, 923, 924, 925, 926, 910, 901, 902, 911, 912, 913, 914, 915, 916, 917] (by decide +kernel) (by decide +kernel)
set_option maxRecDepth 20000 in
theorem gL_law_X7_unshiftOnSpace : GoodIn wsL_law (wsV RL 111 RX7 yX7_unshiftOnSpace wsX7_unshiftOnSpace) := goodIn_app (goodIn_of _ (by decide +kernel)) ggL_law_X7_unshiftOnSpace
set_option maxRecDepth 20000 in
theorem ggL_law_X8_unshiftOnSpace : GoodIn wsL_law wsX8_unshiftOnSpace := goodIn_r _ [541, 251, 103, 449, 450, 451, 5, 452, 453, 104, 884, 885, 886, 887, 888, 889, 890, 891, 892, 893, 894, 895, 896, 897, 898, 899, 900] (by decide +kernel) (by decide +kernel)
set_option maxRecDepth 20000 in
theorem gL_law_X8_unshiftOnSpace : GoodIn wsL_law (wsV RL 115 RX8 yX8_unshiftOnSpace wsX8_unshiftOnSpace) := goodIn_app (goodIn_of _ (by decide +kernel)) ggL_law_X8_unshiftOnSpace
set_option maxRecDepth 20000 in
theorem ggL_law_L_learn : GoodIn wsL_law wsL_learn := goodIn_ca (goodIn_ca (goodIn_r _ [544, 116, 117, 545, 546, 547, 2, 548, 122, 123, 124, 125, 16, 24, 32, 20, 549, 550, 23, 551, 552, 223, 224, 15, 225, 63, 395, 277, 278, 279, 42, 280, 281, 282, 283, 553, 131, 128, 132, 554, 127, 129, 130, 133, 134, 135, 136, 137, 138, 139, 140, 141, 142, 143, 144, 145, 146, 147, 148, 149, 150, 151, 152, 153, 154, 155, 156, 157, 158, 159, 160, 161, 162, 163, 164, 38, 39, 40, 165, 166, 167, 168, 169, 170, 171, 172, 173, 174, 175, 176, 177, 178, 179, 180, 181, 182, 183, 184, 185, 186, 187, 188, 189, 190, 191, 192, 193, 194, 195, 196, 197, 198, 199, 200, 201, 202, 203, 204, 205, 206, 207, 208, 209, 210, 211, 212, 213, 214, 215, 216, 217, 218, 219, 220, 221, 555, 397, 398, 399, 72, 400, 401, 402, 403, 341, 556, 557, 558, 559, 222, 315, 316, 317, 31, 318, 319, 89, 320, 321, 322, 323, 324, 325, 326, 327, 328, 329, 330, 91, 331, 96, 97, 332, 333, 334, 335, 336, 337, 338, 339, 340, 59, 60, 61, 62, 64, 65, 66, 67, 342, 226, 260, 356, 357, 358, 359, 28, 360, 361, 362, 27, 363, 364, 365, 366, 367, 78, 79, 80, 81, 82, 368, 369, 370, 371, 372, 373, 374, 375, 376, 377, 378, 379, 380, 381, 382, 383, 384, 385, 386, 387, 388, 389, 390, 391, 392, 393, 394, 396, 404, 405, 406, 407, 408, 409, 410, 411, 412, 413, 414, 415, 416, 417, 418, 419, 420, 421, 422, 423, 424, 425, 426, 427, 428, 429, 430, 431, 432, 433, 434, 435, 436, 437, 438, 439, 440, 441, 442, 443, 444, 290, 291, 879, 880, 881, 882, 883, 910, 901, 902, 918, 919, 920, 921, 922, 923, 924, 925, 926, 903, 904, 905, 906, 907, 908, 909, 911, 912, 913, 914, 915, 916, 917] (by decide +kernel) (by decide +kernel)) (goodIn_sub (fun _ h => List.mem_append_left _ (List.mem_append_left _ (List.mem_append_right _ h))) (by decide +kernel))) (goodIn_sub (fun _ h => List.mem_append_left _ (List.mem_append_right _ h)) (by decide +kernel))
set_option maxRecDepth 20000 in
theorem gL_law_L_learn : GoodIn wsL_law (va_wsS RL 116 yL_learn wsL_learn) := goodIn_app (goodIn_of _ (by decide +kernel)) ggL_law_L_learn
set_option maxRecDepth 20000 in
theorem ggL_law_X8_learn : GoodIn wsL_law wsX8_learn := goodIn_r _ [563, 103, 231, 105, 564, 565, 566, 5, 567, 238, 239, 240, 235, 236, 237, 568, 569, 570, 571, 232, 233, 234, 241, 242, 243, 244, 245, 246, 247, 248, 249, 250, 251, 449, 450, 451, 452, 453, 104, 884, 885, 886, 887, 888, 889, 890, 891, 892, 893, 894, 895, 896, 897, 898, 899, 900] (by decide +kernel) (by decide +kernel)
set_option maxRecDepth 20000 in
theorem gL_law_X8_learn : GoodIn wsL_law (wsV RL 118 RX8 yX8_learn wsX8_learn) := goodIn_app (goodIn_of _ (by decide +kernel)) ggL_law_X8_learn
set_option maxRecDepth 20000 in
theorem ggL_law_L_forget : GoodIn wsL_law wsL_forget := goodIn_ca (goodIn_r _ [574, 461, 575, 576, 577, 2, 578, 466, 467, 24, 32, 20, 468, 281, 282, 15, 283, 63, 42, 315, 316, 317, 31, 318, 319, 89, 320, 321, 322, 323, 324, 325, 326, 327, 328, 329, 330, 91, 331, 96, 97, 332, 333, 334, 335, 336, 337, 338, 339, 340, 59, 60, 61, 62, 341, 277, 278, 279, 280, 64, 65, 66, 67, 342, 223, 224, 225, 579, 580, 581, 23, 582, 583, 584, 585, 586, 72, 395, 587, 588, 589, 590, 591, 471, 472, 473, 356, 357, 358, 359, 28, 360, 361, 362, 27, 363, 364, 365, 366, 367, 78, 79, 80, 81, 82, 368, 369, 370, 371, 372, 373, 374, 128, 375, 376, 377, 378, 379, 380, 381, 382, 383, 384, 385, 386, 387, 388, 389, 390, 391, 392, 393, 394, 396, 397, 398, 399, 400, 401, 402, 403, 404, 405, 406, 407, 408, 409, 410, 411, 412, 413, 414, 415, 416, 417, 418, 419, 153, 154, 139, 155, 145, 156, 157, 158, 159, 150, 151, 420, 421, 422, 423, 146, 147, 148, 149, 424, 425, 162, 426, 427, 428, 429, 193, 430, 431, 196, 432, 433, 434, 176, 435, 436, 437, 438, 187, 188, 189, 439, 201, 202, 203, 204, 205, 206, 440, 441, 442, 443, 444, 290, 291, 879, 880, 881, 882, 883, 910, 901, 902, 918, 919, 920, 921, 922, 923, 924, 925, 926, 903, 904, 905, 906, 907, 908, 909, 911, 912, 913, 914, 915, 916, 917] (by decide +kernel) (by decide +kernel)) (goodIn_sub (fun _ h => List.mem_append_right _ h) (by decide +kernel))
set_option maxRecDepth 20000 in
theorem gL_law_L_forget : GoodIn wsL_law (va_wsS RL 119 yL_forget wsL_forget) := goodIn_app (goodIn_of _ (by decide +kernel)) ggL_law_L_forget
set_option maxRecDepth 20000 in
theorem ggL_law_X8_forget : GoodIn wsL_law wsX8_forget := goodIn_r _ [595, 103, 596, 597, 598, 5, 599, 238, 239, 240, 247, 248, 249, 250, 251, 449, 450, 451, 452, 453, 104, 884, 885, 886, 887, 888, 889, 890, 891, 892, 893, 894, 895, 896, 897, 898, 899, 900] (by decide +kernel) (by decide +kernel)
set_option maxRecDepth 20000 in
theorem gL_law_X8_forget : GoodIn wsL_law (wsV RL 121 RX8 yX8_forget wsX8_forget) := goodIn_app (goodIn_of _ (by decide +kernel)) ggL_law_X8_forget
set_option maxRecDepth 20000 in
theorem ggL_law_X7_words : GoodIn wsL_law wsX7_words := goodIn_r _ [559, 24, 222, 223, 224, 15, 225, 63, 879, 880, 881, 882, 883, 910, 901, 902] (by decide +kernel) (by decide +kernel)
set_option maxRecDepth 20000 in
theorem gL_law_X7_words : GoodIn wsL_law (wsV RL 122 RX7 yX7_words wsX7_words) := goodIn_app (goodIn_of _ (by decide +kernel)) ggL_law_X7_words
set_option maxRecDepth 20000 in
theorem ggL_law_X8_words : GoodIn wsL_law wsX8_words := goodIn_r _ [604, 251, 103, 884, 885, 886, 887, 888, 889, 890, 891, 892, 893, 894, 895, 896, 897, 898, 899, 900] (by decide +kernel) (by decide +kernel)
set_option maxRecDepth 20000 in
theorem gL_law_X8_words : GoodIn wsL_law (wsV RL 125 RX8 yX8_words wsX8_words) := goodIn_app (goodIn_of _ (by decide +kernel)) ggL_law_X8_words
set_option maxRecDepth 20000 in
theorem ggL_law_L_wordLetter : GoodIn wsL_law wsL_wordLetter := goodIn_ca (goodIn_r _ [607, 461, 608, 609, 610, 2, 611, 466, 467, 24, 468, 281, 282, 15, 283, 63, 42, 612, 584, 585, 23, 586, 72, 395, 277, 278, 279, 280, 613, 416, 128, 417, 418, 374, 375, 419, 153, 154, 139, 155, 145, 156, 157, 158, 159, 150, 151, 420, 421, 422, 423, 146, 147, 148, 149, 424, 425, 162, 426, 427, 428, 429, 193, 430, 431, 196, 432, 433, 434, 176, 435, 436, 437, 438, 187, 188, 189, 439, 201, 202, 203, 204, 205, 206, 879, 880, 881, 882, 883, 910, 901, 902] (by decide +kernel) (by decide +kernel)) (goodIn_sub (fun _ h => List.mem_append_right _ h) (by decide +kernel))
set_option maxRecDepth 20000 in
theorem gL_law_L_wordLetter : GoodIn wsL_law (va_wsS RL 126 yL_wordLetter wsL_wordLetter) := goodIn_app (goodIn_of _ (by decide +kernel)) ggL_law_L_wordLetter
set_option maxRecDepth 20000 in
theorem ggL_law_X8_wordLetter : GoodIn wsL_law wsX8_wordLetter := goodIn_r _ [617, 103, 596, 597, 598, 5, 599, 238, 239, 240, 247, 248, 249, 250, 251, 884, 885, 886, 887, 888, 889, 890, 891, 892, 893, 894, 895, 896, 897, 898, 899, 900] (by decide +kernel) (by decide +kernel)
set_option maxRecDepth 20000 in
theorem gL_law_X8_wordLetter : GoodIn wsL_law (wsV RL 128 RX8 yX8_wordLetter wsX8_wordLetter) := goodIn_app (goodIn_of _ (by decide +kernel)) ggL_law_X8_wordLetter
set_option maxRecDepth 20000 in
theorem ggL_law_L_uses : GoodIn wsL_law wsL_uses := goodIn_ca (goodIn_r _ [620, 461, 621, 622, 623, 2, 624, 466, 467, 24, 28, 468, 281, 282, 15, 283, 63, 42, 522, 523, 524, 525, 341, 277, 278, 279, 280, 879, 880, 881, 882, 883, 910, 911, 912, 913, 914, 915, 916, 917, 901, 902] (by decide +kernel) (by decide +kernel)) (goodIn_sub (fun _ h => List.mem_append_right _ h) (by decide +kernel))
set_option maxRecDepth 20000 in
theorem gL_law_L_uses : GoodIn wsL_law (va_wsS RL 129 yL_uses wsL_uses) := goodIn_app (goodIn_of _ (by decide +kernel)) ggL_law_L_uses
set_option maxRecDepth 20000 in
theorem ggL_law_X8_uses : GoodIn wsL_law wsX8_uses := goodIn_r _ [628, 596, 597, 598, 5, 599, 103, 238, 239, 240, 247, 248, 249, 250, 251, 629, 630, 631, 632, 111, 110, 633, 634, 635, 636, 637, 638, 639, 640, 641, 107, 108, 109, 642, 643, 644, 645, 646, 647, 648, 649, 650, 651, 652, 244, 245, 246, 653, 654, 655, 656, 106, 657, 658, 659, 660, 884, 885, 886, 887, 888, 889, 890, 891, 892, 893, 894, 895, 896, 897, 898, 899, 900] (by decide +kernel) (by decide +kernel)
set_option maxRecDepth 20000 in
theorem gL_law_X8_uses : GoodIn wsL_law (wsV RL 131 RX8 yX8_uses wsX8_uses) := goodIn_app (goodIn_of _ (by decide +kernel)) ggL_law_X8_uses
set_option maxRecDepth 20000 in
theorem ggL_law_X7_printedLength : GoodIn wsL_law wsX7_printedLength := goodIn_r _ [664, 28, 222, 223, 224, 15, 225, 63, 879, 880, 881, 882, 883, 911, 912, 913, 914, 915, 916, 917, 901, 902] (by decide +kernel) (by decide +kernel)
set_option maxRecDepth 20000 in
theorem gL_law_X7_printedLength : GoodIn wsL_law (wsV RL 132 RX7 yX7_printedLength wsX7_printedLength) := goodIn_app (goodIn_of _ (by decide +kernel)) ggL_law_X7_printedLength
set_option maxRecDepth 20000 in
theorem ggL_law_X8_printedLength : GoodIn wsL_law wsX8_printedLength := goodIn_r _ [668, 251, 633, 629, 630, 631, 5, 632, 111, 103, 110, 634, 635, 636, 637, 238, 239, 240, 638, 639, 640, 641, 107, 108, 109, 642, 643, 644, 645, 646, 647, 648, 649, 650, 651, 652, 244, 245, 246, 653, 654, 655, 656, 106, 884, 885, 886, 887, 888, 889, 890, 891, 892, 893, 894, 895, 896, 897, 898, 899, 900] (by decide +kernel) (by decide +kernel)
set_option maxRecDepth 20000 in
theorem gL_law_X8_printedLength : GoodIn wsL_law (wsV RL 135 RX8 yX8_printedLength wsX8_printedLength) := goodIn_app (goodIn_of _ (by decide +kernel)) ggL_law_X8_printedLength
set_option maxRecDepth 20000 in
theorem ggL_law_L_printed : GoodIn wsL_law wsL_printed := goodIn_ca (goodIn_r _ [671, 461, 672, 673, 674, 2, 675, 466, 467, 28, 468, 281, 282, 15, 283, 63, 42, 469, 277, 278, 279, 280, 879, 880, 881, 882, 883, 911, 912, 913, 914, 915, 916, 917, 901, 902] (by decide +kernel) (by decide +kernel)) (goodIn_sub (fun _ h => List.mem_append_right _ h) (by decide +kernel))
set_option maxRecDepth 20000 in
theorem gL_law_L_printed : GoodIn wsL_law (va_wsS RL 136 yL_printed wsL_printed) := goodIn_app (goodIn_of _ (by decide +kernel)) ggL_law_L_printed
set_option maxRecDepth 20000 in
theorem ggL_law_X8_printed : GoodIn wsL_law wsX8_printed := goodIn_r _ [679, 633, 106, 629, 630, 631, 5, 632, 111, 103, 110, 634, 635, 636, 637, 238, 239, 240, 638, 639, 640, 641, 107, 108, 109, 642, 643, 644, 645, 646, 647, 648, 649, 650, 651, 652, 244, 245, 246, 653, 654, 655, 656, 247, 248, 249, 250, 251, 884, 885, 886, 887, 888, 889, 890, 891, 892, 893, 894, 895, 896, 897, 898, 899, 900] (by decide +kernel) (by decide +kernel)
set_option maxRecDepth 20000 in
theorem gL_law_X8_printed : GoodIn wsL_law (wsV RL 138 RX8 yX8_printed wsX8_printed) := goodIn_app (goodIn_of _ (by decide +kernel)) ggL_law_X8_printed
set_option maxRecDepth 20000 in
theorem ggL_law_X7_segments : GoodIn wsL_law wsX7_segments := goodIn_r _ [683, 28, 222, 223, 224, 15, 225, 63, 879, 880, 881, 882, 883, 911, 912, 913, 914, 915, 916, 917, 901, 902] (by decide +kernel) (by decide +kernel)
set_option maxRecDepth 20000 in
theorem gL_law_X7_segments : GoodIn wsL_law (wsV RL 139 RX7 yX7_segments wsX7_segments) := goodIn_app (goodIn_of _ (by decide +kernel)) ggL_law_X7_segments
set_option maxRecDepth 20000 in
theorem ggL_law_X8_segments : GoodIn wsL_law wsX8_segments := goodIn_r _ [687, 251, 634, 629, 630, 631, 5, 632, 111, 103, 110, 633, 635, 636, 637, 238, 239, 240, 638, 639, 640, 641, 107, 108, 109, 642, 643, 644, 645, 646, 647, 648, 649, 650, 651, 652, 244, 245, 246, 653, 654, 655, 656, 106, 884, 885, 886, 887, 888, 889, 890, 891, 892, 893, 894, 895, 896, 897, 898, 899, 900] (by decide +kernel) (by decide +kernel)
set_option maxRecDepth 20000 in
theorem gL_law_X8_segments : GoodIn wsL_law (wsV RL 142 RX8 yX8_segments wsX8_segments) := goodIn_app (goodIn_of _ (by decide +kernel)) ggL_law_X8_segments
set_option maxRecDepth 20000 in
theorem ggL_law_L_segmentLength : GoodIn wsL_law wsL_segmentLength := goodIn_ca (goodIn_r _ [690, 461, 691, 692, 693, 2, 694, 466, 467, 28, 468, 281, 282, 15, 283, 63, 42, 469, 277, 278, 279, 280, 879, 880, 881, 882, 883, 911, 912, 913, 914, 915, 916, 917, 901, 902] (by decide +kernel) (by decide +kernel)) (goodIn_sub (fun _ h => List.mem_append_right _ h) (by decide +kernel))
set_option maxRecDepth 20000 in
theorem gL_law_L_segmentLength : GoodIn wsL_law (va_wsS RL 143 yL_segmentLength wsL_segmentLength) := goodIn_app (goodIn_of _ (by decide +kernel)) ggL_law_L_segmentLength
set_option maxRecDepth 20000 in
theorem ggL_law_X8_segmentLength : GoodIn wsL_law wsX8_segmentLength := goodIn_r _ [698, 634, 108, 629, 630, 631, 5, 632, 111, 103, 110, 633, 635, 636, 637, 238, 239, 240, 638, 639, 640, 641, 107, 109, 642, 643, 644, 645, 646, 647, 648, 649, 650, 651, 652, 244, 245, 246, 653, 654, 655, 656, 106, 247, 248, 249, 250, 251, 884, 885, 886, 887, 888, 889, 890, 891, 892, 893, 894, 895, 896, 897, 898, 899, 900] (by decide +kernel) (by decide +kernel)
set_option maxRecDepth 20000 in
theorem gL_law_X8_segmentLength : GoodIn wsL_law (wsV RL 145 RX8 yX8_segmentLength wsX8_segmentLength) := goodIn_app (goodIn_of _ (by decide +kernel)) ggL_law_X8_segmentLength
set_option maxRecDepth 20000 in
theorem ggL_law_L_segmentKind : GoodIn wsL_law wsL_segmentKind := goodIn_ca (goodIn_r _ [701, 461, 702, 703, 704, 2, 705, 466, 467, 28, 468, 281, 282, 15, 283, 63, 42, 469, 277, 278, 279, 280, 879, 880, 881, 882, 883, 911, 912, 913, 914, 915, 916, 917, 901, 902] (by decide +kernel) (by decide +kernel)) (goodIn_sub (fun _ h => List.mem_append_right _ h) (by decide +kernel))
set_option maxRecDepth 20000 in
theorem gL_law_L_segmentKind : GoodIn wsL_law (va_wsS RL 146 yL_segmentKind wsL_segmentKind) := goodIn_app (goodIn_of _ (by decide +kernel)) ggL_law_L_segmentKind
set_option maxRecDepth 20000 in
theorem ggL_law_X8_segmentKind : GoodIn wsL_law wsX8_segmentKind := goodIn_r _ [709, 634, 109, 629, 630, 631, 5, 632, 111, 103, 110, 633, 635, 636, 637, 238, 239, 240, 638, 639, 640, 641, 107, 108, 642, 643, 644, 645, 646, 647, 648, 649, 650, 651, 652, 244, 245, 246, 653, 654, 655, 656, 106, 247, 248, 249, 250, 251, 884, 885, 886, 887, 888, 889, 890, 891, 892, 893, 894, 895, 896, 897, 898, 899, 900] (by decide +kernel) (by decide +kernel)
set_option maxRecDepth 20000 in
theorem gL_law_X8_segmentKind : GoodIn wsL_law (wsV RL 148 RX8 yX8_segmentKind wsX8_segmentKind) := goodIn_app (goodIn_of _ (by decide +kernel)) ggL_law_X8_segmentKind
set_option maxRecDepth 20000 in
theorem ggL_law_X7_guesses : GoodIn wsL_law wsX7_guesses := goodIn_r _ [713, 28, 522, 523, 524, 15, 525, 63, 341, 277, 278, 279, 42, 280, 281, 282, 283, 879, 880, 881, 882, 883, 911, 912, 913, 914, 915, 916, 917, 901, 902] (by decide +kernel) (by decide +kernel)
set_option maxRecDepth 20000 in
theorem gL_law_X7_guesses : GoodIn wsL_law (wsV RL 149 RX7 yX7_guesses wsX7_guesses) := goodIn_app (goodIn_of _ (by decide +kernel)) ggL_law_X7_guesses
set_option maxRecDepth 20000 in
theorem ggL_law_X8_guesses : GoodIn wsL_law wsX8_guesses := goodIn_r _ [717, 251, 629, 630, 631, 5, 632, 111, 103, 110, 633, 634, 635, 636, 637, 238, 239, 240, 638, 639, 640, 641, 107, 108, 109, 642, 643, 644, 645, 646, 647, 648, 649, 650, 651, 652, 244, 245, 246, 653, 654, 655, 656, 106, 718, 719, 720, 721, 884, 885, 886, 887, 888, 889, 890, 891, 892, 893, 894, 895, 896, 897, 898, 899, 900] (by decide +kernel) (by decide +kernel)
set_option maxRecDepth 20000 in
theorem gL_law_X8_guesses : GoodIn wsL_law (wsV RL 152 RX8 yX8_guesses wsX8_guesses) := goodIn_app (goodIn_of _ (by decide +kernel)) ggL_law_X8_guesses
set_option maxRecDepth 20000 in
theorem ggL_law_X7_doubtful : GoodIn wsL_law wsX7_doubtful := goodIn_r _ [725, 28, 522, 523, 524, 15, 525, 63, 341, 277, 278, 279, 42, 280, 281, 282, 283, 879, 880, 881, 882, 883, 911, 912, 913, 914, 915, 916, 917, 901, 902] (by decide +kernel) (by decide +kernel)
set_option maxRecDepth 20000 in
theorem gL_law_X7_doubtful : GoodIn wsL_law (wsV RL 153 RX7 yX7_doubtful wsX7_doubtful) := goodIn_app (goodIn_of _ (by decide +kernel)) ggL_law_X7_doubtful
set_option maxRecDepth 20000 in
theorem ggL_law_X8_doubtful : GoodIn wsL_law wsX8_doubtful := goodIn_r _ [729, 251, 629, 630, 631, 5, 632, 111, 103, 110, 633, 634, 635, 636, 637, 238, 239, 240, 638, 639, 640, 641, 107, 108, 109, 642, 643, 644, 645, 646, 647, 648, 649, 650, 651, 652, 244, 245, 246, 653, 654, 655, 656, 106, 718, 719, 720, 721, 884, 885, 886, 887, 888, 889, 890, 891, 892, 893, 894, 895, 896, 897, 898, 899, 900] (by decide +kernel) (by decide +kernel)
set_option maxRecDepth 20000 in
theorem gL_law_X8_doubtful : GoodIn wsL_law (wsV RL 156 RX8 yX8_doubtful wsX8_doubtful) := goodIn_app (goodIn_of _ (by decide +kernel)) ggL_law_X8_doubtful
set_option maxRecDepth 20000 in
theorem ggL_law_X7_bells : GoodIn wsL_law wsX7_bells := goodIn_r _ [733, 28, 879, 880, 881, 882, 883, 911, 912, 913, 914, 915, 916, 917] (by decide +kernel) (by decide +kernel)
set_option maxRecDepth 20000 in
theorem gL_law_X7_bells : GoodIn wsL_law (wsV RL 157 RX7 yX7_bells wsX7_bells) := goodIn_app (goodIn_of _ (by decide +kernel)) ggL_law_X7_bells
set_option maxRecDepth 20000 in
theorem ggL_law_X8_bells : GoodIn wsL_law wsX8_bells := goodIn_r _ [737, 251, 635, 629, 630, 631, 5, 632, 111, 103, 110, 633, 634, 636, 637, 238, 239, 240, 638, 639, 640, 641, 107, 108, 109, 642, 643, 644, 645, 646, 647, 648, 649, 650, 651, 652, 244, 245, 246, 653, 654, 655, 656, 106, 884, 885, 886, 887, 888, 889, 890, 891, 892, 893, 894, 895, 896, 897, 898, 899, 900] (by decide +kernel) (by decide +kernel)
set_option maxRecDepth 20000 in
theorem gL_law_X8_bells : GoodIn wsL_law (wsV RL 160 RX8 yX8_bells wsX8_bells) := goodIn_app (goodIn_of _ (by decide +kernel)) ggL_law_X8_bells
set_option maxRecDepth 20000 in
theorem ggL_law_X7_questions : GoodIn wsL_law wsX7_questions := goodIn_r _ [741, 28, 879, 880, 881, 882, 883, 911, 912, 913, 914, 915, 916, 917] (by decide +kernel) (by decide +kernel)
set_option maxRecDepth 20000 in
theorem gL_law_X7_questions : GoodIn wsL_law (wsV RL 161 RX7 yX7_questions wsX7_questions) := goodIn_app (goodIn_of _ (by decide +kernel)) ggL_law_X7_questions
set_option maxRecDepth 20000 in
theorem ggL_law_X8_questions : GoodIn wsL_law wsX8_questions := goodIn_r _ [745, 251, 636, 629, 630, 631, 5, 632, 111, 103, 110, 633, 634, 635, 637, 238, 239, 240, 638, 639, 640, 641, 107, 108, 109, 642, 643, 644, 645, 646, 647, 648, 649, 650, 651, 652, 244, 245, 246, 653, 654, 655, 656, 106, 884, 885, 886, 887, 888, 889, 890, 891, 892, 893, 894, 895, 896, 897, 898, 899, 900] (by decide +kernel) (by decide +kernel)
set_option maxRecDepth 20000 in
theorem gL_law_X8_questions : GoodIn wsL_law (wsV RL 164 RX8 yX8_questions wsX8_questions) := goodIn_app (goodIn_of _ (by decide +kernel)) ggL_law_X8_questions
set_option maxRecDepth 20000 in
theorem ggL_law_X7_receiverShift : GoodIn wsL_law wsX7_receiverShift := goodIn_r _ [749, 28, 879, 880, 881, 882, 883, 911, 912, 913, 914, 915, 916, 917] (by decide +kernel) (by decide +kernel)
set_option maxRecDepth 20000 in
theorem gL_law_X7_receiverShift : GoodIn wsL_law (wsV RL 165 RX7 yX7_receiverShift wsX7_receiverShift) := goodIn_app (goodIn_of _ (by decide +kernel)) ggL_law_X7_receiverShift
set_option maxRecDepth 20000 in
theorem ggL_law_X8_receiverShift : GoodIn wsL_law wsX8_receiverShift := goodIn_r _ [753, 251, 637, 629, 630, 631, 5, 632, 111, 103, 110, 633, 634, 635, 636, 238, 239, 240, 638, 639, 640, 641, 107, 108, 109, 642, 643, 644, 645, 646, 647, 648, 649, 650, 651, 652, 244, 245, 246, 653, 654, 655, 656, 106, 884, 885, 886, 887, 888, 889, 890, 891, 892, 893, 894, 895, 896, 897, 898, 899, 900] (by decide +kernel) (by decide +kernel)
set_option maxRecDepth 20000 in
theorem gL_law_X8_receiverShift : GoodIn wsL_law (wsV RL 168 RX8 yX8_receiverShift wsX8_receiverShift) := goodIn_app (goodIn_of _ (by decide +kernel)) ggL_law_X8_receiverShift
set_option maxRecDepth 20000 in
theorem ggL_law_X7_wrongCharacters : GoodIn wsL_law wsX7_wrongCharacters := goodIn_r _ [757, 28, 20, 758, 166, 39, 167, 759, 38, 40, 222, 223, 224, 15, 225, 63, 469, 277, 278, 279, 42, 280, 281, 282, 283, 879, 880, 881, 882, 883, 911, 912, 913, 914, 915, 916, 917, 903, 904, 905, 906, 907, 908, 909, 901, 902] (by decide +kernel) (by decide +kernel)
set_option maxRecDepth 20000 in
theorem gL_law_X7_wrongCharacters : GoodIn wsL_law (wsV RL 169 RX7 yX7_wrongCharacters wsX7_wrongCharacters) := goodIn_app (goodIn_of _ (by decide +kernel)) ggL_law_X7_wrongCharacters
set_option maxRecDepth 20000 in
theorem ggL_law_X8_wrongCharacters : GoodIn wsL_law wsX8_wrongCharacters := goodIn_r _ [763, 251, 629, 630, 631, 5, 632, 111, 103, 110, 633, 634, 635, 636, 637, 238, 239, 240, 638, 639, 640, 641, 107, 108, 109, 642, 643, 644, 645, 646, 647, 648, 649, 650, 651, 652, 244, 245, 246, 653, 654, 655, 656, 106, 764, 765, 766, 767, 884, 885, 886, 887, 888, 889, 890, 891, 892, 893, 894, 895, 896, 897, 898, 899, 900] (by decide +kernel) (by decide +kernel)
set_option maxRecDepth 20000 in
theorem gL_law_X8_wrongCharacters : GoodIn wsL_law (wsV RL 172 RX8 yX8_wrongCharacters wsX8_wrongCharacters) := goodIn_app (goodIn_of _ (by decide +kernel)) ggL_law_X8_wrongCharacters
set_option maxRecDepth 20000 in
theorem ggL_law_X7_plausibility : GoodIn wsL_law wsX7_plausibility := goodIn_r _ [771, 772, 681, 682, 2, 683, 28, 222, 223, 224, 15, 225, 63, 773, 723, 724, 725, 522, 523, 524, 525, 341, 277, 278, 279, 42, 280, 281, 282, 283, 879, 880, 881, 882, 883, 911, 912, 913, 914, 915, 916, 917, 901, 902] (by decide +kernel) (by decide +kernel)
set_option maxRecDepth 20000 in
theorem gL_law_X7_plausibility : GoodIn wsL_law (wsV RL 173 RX7 yX7_plausibility wsX7_plausibility) := goodIn_app (goodIn_of _ (by decide +kernel)) ggL_law_X7_plausibility
set_option maxRecDepth 20000 in
theorem ggL_law_X8_plausibility : GoodIn wsL_law wsX8_plausibility := goodIn_r _ [777, 251, 634, 629, 630, 631, 5, 632, 111, 103, 110, 633, 635, 636, 637, 238, 239, 240, 638, 639, 640, 641, 107, 108, 109, 642, 643, 644, 645, 646, 647, 648, 649, 650, 651, 652, 244, 245, 246, 653, 654, 655, 656, 106, 718, 719, 720, 721, 884, 885, 886, 887, 888, 889, 890, 891, 892, 893, 894, 895, 896, 897, 898, 899, 900] (by decide +kernel) (by decide +kernel)
set_option maxRecDepth 20000 in
theorem gL_law_X8_plausibility : GoodIn wsL_law (wsV RL 177 RX8 yX8_plausibility wsX8_plausibility) := goodIn_app (goodIn_of _ (by decide +kernel)) ggL_law_X8_plausibility
set_option maxRecDepth 20000 in
theorem ggL_law_L_doubtfulWith : GoodIn wsL_law wsL_doubtfulWith := goodIn_ca (goodIn_ca (goodIn_r _ [780, 461, 116, 781, 782, 783, 2, 784, 466, 467, 122, 123, 343, 344, 345, 346, 20, 222, 223, 224, 15, 225, 63, 773, 723, 724, 725, 28, 522, 523, 524, 525, 341, 277, 278, 279, 42, 280, 281, 282, 283, 785, 786, 787, 788, 24, 789, 790, 128, 791, 792, 418, 374, 375, 793, 794, 795, 796, 797, 798, 799, 23, 800, 801, 381, 382, 383, 384, 385, 386, 387, 388, 389, 390, 391, 392, 393, 394, 395, 396, 397, 398, 399, 72, 400, 401, 402, 403, 404, 405, 406, 407, 408, 409, 879, 880, 881, 882, 883, 903, 904, 905, 906, 907, 908, 909, 901, 902, 911, 912, 913, 914, 915, 916, 917, 910] (by decide +kernel) (by decide +kernel)) (goodIn_sub (fun _ h => List.mem_append_right _ h) (by decide +kernel))) (goodIn_sub (fun _ h => List.mem_append_left _ (List.mem_append_left _ (List.mem_append_right _ h))) (by decide +kernel))
set_option maxRecDepth 20000 in
theorem gL_law_L_doubtfulWith : GoodIn wsL_law (va_wsS RL 178 yL_doubtfulWith wsL_doubtfulWith) := goodIn_app (goodIn_of _ (by decide +kernel)) ggL_law_L_doubtfulWith
set_option maxRecDepth 20000 in
theorem ggL_law_X8_doubtfulWith : GoodIn wsL_law wsX8_doubtfulWith := goodIn_r _ [805, 103, 238, 239, 5, 240, 247, 248, 249, 250, 251, 806, 807, 808, 809, 629, 630, 631, 632, 111, 110, 633, 634, 635, 636, 637, 638, 639, 640, 641, 107, 108, 109, 642, 643, 644, 645, 646, 647, 648, 649, 650, 651, 652, 244, 245, 246, 653, 654, 655, 656, 106, 718, 719, 720, 721, 884, 885, 886, 887, 888, 889, 890, 891, 892, 893, 894, 895, 896, 897, 898, 899, 900] (by decide +kernel) (by decide +kernel)
set_option maxRecDepth 20000 in
theorem gL_law_X8_doubtfulWith : GoodIn wsL_law (wsV RL 180 RX8 yX8_doubtfulWith wsX8_doubtfulWith) := goodIn_app (goodIn_of _ (by decide +kernel)) ggL_law_X8_doubtfulWith
set_option maxRecDepth 20000 in
theorem ggL_law_X7_bestRepair : GoodIn wsL_law wsX7_bestRepair := goodIn_r _ [813, 343, 344, 345, 2, 346, 20, 222, 223, 224, 15, 225, 63, 785, 786, 787, 788, 24, 789, 790, 128, 791, 792, 277, 278, 279, 42, 280, 281, 282, 283, 418, 374, 375, 793, 794, 795, 796, 797, 798, 799, 23, 800, 801, 381, 382, 383, 384, 385, 386, 387, 388, 389, 390, 391, 392, 393, 394, 395, 396, 397, 398, 399, 72, 400, 401, 402, 403, 341, 404, 405, 406, 407, 408, 409, 879, 880, 881, 882, 883, 903, 904, 905, 906, 907, 908, 909, 901, 902, 910] (by decide +kernel) (by decide +kernel)
set_option maxRecDepth 20000 in
theorem gL_law_X7_bestRepair : GoodIn wsL_law (wsV RL 181 RX7 yX7_bestRepair wsX7_bestRepair) := goodIn_app (goodIn_of _ (by decide +kernel)) ggL_law_X7_bestRepair
set_option maxRecDepth 20000 in
theorem ggL_law_X8_bestRepair : GoodIn wsL_law wsX8_bestRepair := goodIn_r _ [817, 251, 818, 819, 820, 5, 821, 103, 806, 807, 808, 809, 629, 630, 631, 632, 111, 110, 633, 634, 635, 636, 637, 238, 239, 240, 638, 639, 640, 641, 107, 108, 109, 642, 643, 644, 645, 646, 647, 648, 649, 650, 651, 652, 244, 245, 246, 653, 654, 655, 656, 106, 718, 719, 720, 721, 884, 885, 886, 887, 888, 889, 890, 891, 892, 893, 894, 895, 896, 897, 898, 899, 900] (by decide +kernel) (by decide +kernel)
set_option maxRecDepth 20000 in
theorem gL_law_X8_bestRepair : GoodIn wsL_law (wsV RL 184 RX8 yX8_bestRepair wsX8_bestRepair) := goodIn_app (goodIn_of _ (by decide +kernel)) ggL_law_X8_bestRepair
set_option maxRecDepth 20000 in
theorem ggL_law_L_undo : GoodIn wsL_law wsL_undo := goodIn_ca (goodIn_r _ [824, 117, 825, 826, 827, 2, 828, 124, 125, 32, 20, 24, 829, 830, 831, 31, 832, 319, 324, 325, 326, 327, 89, 833, 834, 835, 91, 836, 96, 97, 332, 333, 334, 335, 336, 337, 338, 339, 15, 340, 63, 59, 60, 61, 62, 341, 277, 278, 279, 42, 280, 281, 282, 283, 64, 65, 66, 67, 837, 838, 839, 840, 356, 357, 358, 359, 28, 360, 361, 362, 27, 363, 364, 365, 366, 367, 78, 79, 80, 81, 82, 368, 369, 370, 371, 223, 224, 225, 372, 373, 374, 128, 375, 376, 377, 378, 379, 380, 381, 382, 23, 383, 384, 385, 386, 387, 388, 389, 390, 391, 392, 393, 394, 395, 396, 397, 398, 399, 72, 400, 401, 402, 403, 404, 405, 406, 407, 408, 409, 410, 411, 412, 413, 414, 415, 416, 417, 418, 419, 153, 154, 139, 155, 145, 156, 157, 158, 159, 150, 151, 420, 421, 422, 423, 146, 147, 148, 149, 424, 425, 162, 426, 427, 428, 429, 193, 430, 431, 196, 432, 433, 434, 176, 435, 436, 437, 438, 187, 188, 189, 439, 201, 202, 203, 204, 205, 206, 440, 441, 442, 443, 444, 290, 291, 879, 880, 881, 882, 883, 918, 919, 903, 904, 905, 906, 907, 908, 909, 920, 921, 922, 923, 924, 925, 926, 910, 901, 902, 911, 912, 913, 914, 915, 916, 917] (by decide +kernel) (by decide +kernel)) (goodIn_sub (fun _ h => List.mem_append_left _ (List.mem_append_right _ h)) (by decide +kernel))
set_option maxRecDepth 20000 in
theorem gL_law_L_undo : GoodIn wsL_law (va_wsS RL 185 yL_undo wsL_undo) := goodIn_app (goodIn_of _ (by decide +kernel)) ggL_law_L_undo
set_option maxRecDepth 20000 in
theorem ggL_law_X8_undo : GoodIn wsL_law wsX8_undo := goodIn_r _ [844, 453, 103, 104, 247, 248, 249, 5, 250, 251, 884, 885, 886, 887, 888, 889, 890, 891, 892, 893, 894, 895, 896, 897, 898, 899, 900] (by decide +kernel) (by decide +kernel)
set_option maxRecDepth 20000 in
theorem gL_law_X8_undo : GoodIn wsL_law (wsV RL 187 RX8 yX8_undo wsX8_undo) := goodIn_app (goodIn_of _ (by decide +kernel)) ggL_law_X8_undo
set_option maxRecDepth 20000 in
theorem ggL_law_X7_savedStates : GoodIn wsL_law wsX7_savedStates := goodIn_r _ [848, 32, 879, 880, 881, 882, 883, 918, 919] (by decide +kernel) (by decide +kernel)
set_option maxRecDepth 20000 in
theorem gL_law_X7_savedStates : GoodIn wsL_law (wsV RL 188 RX7 yX7_savedStates wsX7_savedStates) := goodIn_app (goodIn_of _ (by decide +kernel)) ggL_law_X7_savedStates
set_option maxRecDepth 20000 in
theorem ggL_law_X8_savedStates : GoodIn wsL_law wsX8_savedStates := goodIn_r _ [852, 251, 453, 884, 885, 886, 887, 888, 889, 890, 891, 892, 893, 894, 895, 896, 897, 898, 899, 900] (by decide +kernel) (by decide +kernel)
set_option maxRecDepth 20000 in
theorem gL_law_X8_savedStates : GoodIn wsL_law (wsV RL 191 RX8 yX8_savedStates wsX8_savedStates) := goodIn_app (goodIn_of _ (by decide +kernel)) ggL_law_X8_savedStates
set_option maxRecDepth 20000 in
theorem ggL_law_X7_digest : GoodIn wsL_law wsX7_digest := goodIn_r _ [856, 857, 858, 20, 28, 24, 310, 311, 312, 2, 313, 222, 223, 224, 15, 225, 63, 343, 344, 345, 346, 859, 511, 512, 513, 860, 519, 520, 521, 522, 523, 524, 525, 341, 277, 278, 279, 42, 280, 281, 282, 283, 556, 557, 558, 559, 861, 662, 663, 664, 772, 681, 682, 683, 862, 711, 712, 713, 773, 723, 724, 725, 863, 731, 732, 733, 864, 739, 740, 741, 865, 747, 748, 749, 866, 755, 756, 757, 758, 166, 39, 167, 759, 38, 40, 469, 867, 811, 812, 813, 785, 786, 787, 788, 789, 790, 128, 791, 792, 418, 374, 375, 793, 794, 795, 796, 797, 798, 799, 23, 800, 801, 381, 382, 383, 384, 385, 386, 387, 388, 389, 390, 391, 392, 393, 394, 395, 396, 397, 398, 399, 72, 400, 401, 402, 403, 404, 405, 406, 407, 408, 409, 868, 869, 870, 871, 872, 579, 580, 581, 582, 583, 584, 585, 586, 879, 880, 881, 882, 883, 903, 904, 905, 906, 907, 908, 909, 911, 912, 913, 914, 915, 916, 917, 901, 902, 910] (by decide +kernel) (by decide +kernel)
set_option maxRecDepth 20000 in
theorem gL_law_X7_digest : GoodIn wsL_law (wsV RL 192 RX7 yX7_digest wsX7_digest) := goodIn_app (goodIn_of _ (by decide +kernel)) ggL_law_X7_digest
set_option maxRecDepth 20000 in
theorem ggL_law_X8_digest : GoodIn wsL_law wsX8_digest := goodIn_r _ [876, 251, 877, 103, 878, 633, 634, 635, 636, 637, 106, 108, 109, 818, 819, 820, 5, 821, 806, 807, 808, 809, 629, 630, 631, 632, 111, 110, 238, 239, 240, 638, 639, 640, 641, 107, 642, 643, 644, 645, 646, 647, 648, 649, 650, 651, 652, 244, 245, 246, 653, 654, 655, 656, 718, 719, 720, 721, 530, 531, 532, 533, 764, 765, 766, 767, 657, 658, 659, 660, 884, 885, 886, 887, 888, 889, 890, 891, 892, 893, 894, 895, 896, 897, 898, 899, 900] (by decide +kernel) (by decide +kernel)
set_option maxRecDepth 20000 in
theorem gL_law_X8_digest : GoodIn wsL_law (wsV RL 196 RX8 yX8_digest wsX8_digest) := goodIn_app (goodIn_of _ (by decide +kernel)) ggL_law_X8_digest
theorem dL_law_0 : decode cL_law 0 = .ok (.new 8, 3) := by decide +kernel
theorem dL_law_3 : decode cL_law 3 = .ok (.dup, 1) := by decide +kernel
theorem dL_law_4 : decode cL_law 4 = .ok (.invokespecial 60, 3) := by decide +kernel
theorem dL_law_7 : decode cL_law 7 = .ok (.astore_n 1, 1) := by decide +kernel
theorem dL_law_8 : decode cL_law 8 = .ok (.new 61, 3) := by decide +kernel
theorem dL_law_11 : decode cL_law 11 = .ok (.dup, 1) := by decide +kernel
theorem dL_law_12 : decode cL_law 12 = .ok (.invokespecial 63, 3) := by decide +kernel
theorem dL_law_15 : decode cL_law 15 = .ok (.astore_n 2, 1) := by decide +kernel
theorem dL_law_16 : decode cL_law 16 = .ok (.iconst 1, 1) := by decide +kernel
theorem dL_law_17 : decode cL_law 17 = .ok (.newarray .long, 2) := by decide +kernel
theorem dL_law_19 : decode cL_law 19 = .ok (.astore_n 3, 1) := by decide +kernel
theorem dL_law_20 : decode cL_law 20 = .ok (.iconst 0, 1) := by decide +kernel
theorem dL_law_21 : decode cL_law 21 = .ok (.istore 4, 2) := by decide +kernel
theorem dL_law_23 : decode cL_law 23 = .ok (.iload 4, 2) := by decide +kernel
theorem dL_law_25 : decode cL_law 25 = .ok (.aload_n 0, 1) := by decide +kernel
theorem dL_law_26 : decode cL_law 26 = .ok (.arraylength, 1) := by decide +kernel
theorem dL_law_27 : decode cL_law 27 = .ok (.iconst 3, 1) := by decide +kernel
theorem dL_law_28 : decode cL_law 28 = .ok (.isub, 1) := by decide +kernel
theorem dL_law_29 : decode cL_law 29 = .ok (.if_icmp .gt 1266, 3) := by decide +kernel
theorem dL_law_32 : decode cL_law 32 = .ok (.aload_n 0, 1) := by decide +kernel
theorem dL_law_33 : decode cL_law 33 = .ok (.iload 4, 2) := by decide +kernel
theorem dL_law_35 : decode cL_law 35 = .ok (.iaload, 1) := by decide +kernel
theorem dL_law_36 : decode cL_law 36 = .ok (.bipush 63, 2) := by decide +kernel
theorem dL_law_38 : decode cL_law 38 = .ok (.iand, 1) := by decide +kernel
theorem dL_law_39 : decode cL_law 39 = .ok (.tableswitch 1250 0 33 #[149, 205, 218, 231, 275, 343, 356, 369, 425, 481, 494, 507, 548, 592, 648, 661, 729, 785, 798, 854, 867, 923, 979, 992, 1005, 1018, 1031, 1044, 1057, 1098, 1166, 1179, 1223, 1236], 149) := by decide +kernel
theorem dL_law_188 : decode cL_law 188 = .ok (.aload_n 1, 1) := by decide +kernel
theorem dL_law_189 : decode cL_law 189 = .ok (.aload_n 0, 1) := by decide +kernel
theorem dL_law_190 : decode cL_law 190 = .ok (.iload 4, 2) := by decide +kernel
theorem dL_law_192 : decode cL_law 192 = .ok (.iconst 1, 1) := by decide +kernel
theorem dL_law_193 : decode cL_law 193 = .ok (.iadd, 1) := by decide +kernel
theorem dL_law_194 : decode cL_law 194 = .ok (.iaload, 1) := by decide +kernel
theorem dL_law_195 : decode cL_law 195 = .ok (.aload_n 3, 1) := by decide +kernel
theorem dL_law_196 : decode cL_law 196 = .ok (.invokestatic 64, 3) := by decide +kernel
theorem dL_law_199 : decode cL_law 199 = .ok (.istore 5, 2) := by decide +kernel
theorem dL_law_201 : decode cL_law 201 = .ok (.aload_n 2, 1) := by decide +kernel
theorem dL_law_202 : decode cL_law 202 = .ok (.aload_n 0, 1) := by decide +kernel
theorem dL_law_203 : decode cL_law 203 = .ok (.iload 4, 2) := by decide +kernel
theorem dL_law_205 : decode cL_law 205 = .ok (.iconst 1, 1) := by decide +kernel
theorem dL_law_206 : decode cL_law 206 = .ok (.iadd, 1) := by decide +kernel
theorem dL_law_207 : decode cL_law 207 = .ok (.iaload, 1) := by decide +kernel
theorem dL_law_208 : decode cL_law 208 = .ok (.invokevirtual 69, 3) := by decide +kernel
theorem dL_law_211 : decode cL_law 211 = .ok (.istore 6, 2) := by decide +kernel
theorem dL_law_213 : decode cL_law 213 = .ok (.aload_n 2, 1) := by decide +kernel
theorem dL_law_214 : decode cL_law 214 = .ok (.invokevirtual 70, 3) := by decide +kernel
theorem dL_law_217 : decode cL_law 217 = .ok (.iload 5, 2) := by decide +kernel
theorem dL_law_219 : decode cL_law 219 = .ok (.if_icmp .eq 5, 3) := by decide +kernel
theorem dL_law_222 : decode cL_law 222 = .ok (.iconst 0, 1) := by decide +kernel
theorem dL_law_223 : decode cL_law 223 = .ok (.ireturn, 1) := by decide +kernel
theorem dL_law_224 : decode cL_law 224 = .ok (.iload 5, 2) := by decide +kernel
