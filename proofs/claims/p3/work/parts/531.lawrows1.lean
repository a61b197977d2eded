theorem dL_law_0 : decode cL_law 0 = .ok (.new 8, 3) := qr2 (P := 0) (o := 0) (op := 187) (v := 8) qLW0 (by decide +kernel) qo187
theorem dL_law_3 : decode cL_law 3 = .ok (.dup, 1) := qr0 (P := 0) (o := 3) (op := 89) qLW0 (by decide +kernel) qo89
theorem dL_law_4 : decode cL_law 4 = .ok (.invokespecial 145, 3) := qr2 (P := 0) (o := 4) (op := 183) (v := 145) qLW0 (by decide +kernel) qo183
theorem dL_law_7 : decode cL_law 7 = .ok (.astore_n 1, 1) := qr0 (P := 0) (o := 7) (op := 76) qLW0 (by decide +kernel) qo76
theorem dL_law_8 : decode cL_law 8 = .ok (.new 146, 3) := qr2 (P := 0) (o := 8) (op := 187) (v := 146) qLW0 (by decide +kernel) qo187
theorem dL_law_11 : decode cL_law 11 = .ok (.dup, 1) := qr0 (P := 0) (o := 11) (op := 89) qLW0 (by decide +kernel) qo89
theorem dL_law_12 : decode cL_law 12 = .ok (.invokespecial 148, 3) := qr2 (P := 0) (o := 12) (op := 183) (v := 148) qLW0 (by decide +kernel) qo183
theorem dL_law_15 : decode cL_law 15 = .ok (.astore_n 2, 1) := qr0 (P := 0) (o := 15) (op := 77) qLW0 (by decide +kernel) qo77
theorem dL_law_16 : decode cL_law 16 = .ok (.iconst 1, 1) := qr0 (P := 0) (o := 16) (op := 4) qLW0 (by decide +kernel) qo4
theorem dL_law_17 : decode cL_law 17 = .ok (.newarray .long, 2) := by decide +kernel
theorem dL_law_19 : decode cL_law 19 = .ok (.astore_n 3, 1) := qr0 (P := 0) (o := 19) (op := 78) qLW0 (by decide +kernel) qo78
theorem dL_law_20 : decode cL_law 20 = .ok (.iconst 1, 1) := qr0 (P := 0) (o := 20) (op := 4) qLW0 (by decide +kernel) qo4
theorem dL_law_21 : decode cL_law 21 = .ok (.newarray .double, 2) := by decide +kernel
theorem dL_law_23 : decode cL_law 23 = .ok (.astore 4, 2) := qr1 (P := 0) (o := 23) (op := 58) (v := 4) qLW0 (by decide +kernel) qo58
theorem dL_law_25 : decode cL_law 25 = .ok (.iconst 0, 1) := qr0 (P := 0) (o := 25) (op := 3) qLW0 (by decide +kernel) qo3
theorem dL_law_26 : decode cL_law 26 = .ok (.istore 5, 2) := qr1 (P := 0) (o := 26) (op := 54) (v := 5) qLW0 (by decide +kernel) qo54
theorem dL_law_28 : decode cL_law 28 = .ok (.iload 5, 2) := qr1 (P := 0) (o := 28) (op := 21) (v := 5) qLW0 (by decide +kernel) qo21
theorem dL_law_30 : decode cL_law 30 = .ok (.aload_n 0, 1) := qr0 (P := 0) (o := 30) (op := 42) qLW0 (by decide +kernel) qo42
theorem dL_law_31 : decode cL_law 31 = .ok (.arraylength, 1) := qr0 (P := 0) (o := 31) (op := 190) qLW0 (by decide +kernel) qo190
theorem dL_law_32 : decode cL_law 32 = .ok (.bipush 6, 2) := qr1 (P := 0) (o := 32) (op := 16) (v := 6) qLW0 (by decide +kernel) (fun h h2 => qo16 h (qs1 h2 (by decide +kernel)))
theorem dL_law_34 : decode cL_law 34 = .ok (.isub, 1) := qr0 (P := 0) (o := 34) (op := 100) qLW0 (by decide +kernel) qo100
theorem dL_law_35 : decode cL_law 35 = .ok (.if_icmp .gt 1912, 3) := qr2 (P := 0) (o := 35) (op := 163) (v := 1912) qLW0 (by decide +kernel) (fun h h2 => qo163 h (qs2 h2 (by decide +kernel)))
theorem dL_law_38 : decode cL_law 38 = .ok (.aload_n 0, 1) := qr0 (P := 0) (o := 38) (op := 42) qLW0 (by decide +kernel) qo42
theorem dL_law_39 : decode cL_law 39 = .ok (.iload 5, 2) := qr1 (P := 0) (o := 39) (op := 21) (v := 5) qLW0 (by decide +kernel) qo21
theorem dL_law_41 : decode cL_law 41 = .ok (.iaload, 1) := qr0 (P := 0) (o := 41) (op := 46) qLW0 (by decide +kernel) qo46
theorem dL_law_42 : decode cL_law 42 = .ok (.bipush 63, 2) := qr1 (P := 0) (o := 42) (op := 16) (v := 63) qLW0 (by decide +kernel) (fun h h2 => qo16 h (qs1 h2 (by decide +kernel)))
theorem dL_law_44 : decode cL_law 44 = .ok (.iand, 1) := qr0 (P := 0) (o := 44) (op := 126) qLW0 (by decide +kernel) qo126
theorem dL_law_45 : decode cL_law 45 = .ok (.tableswitch 1896 0 42 #[187, 263, 319, 347, 375, 388, 416, 444, 472, 512, 553, 581, 622, 635, 651, 717, 769, 821, 873, 925, 977, 1029, 1081, 1109, 1137, 1193, 1273, 1325, 1353, 1393, 1433, 1501, 1581, 1645, 1673, 1702, 1731, 1783, 1796, 1824, 1841, 1870, 1883], 187) := by decide +kernel
theorem dL_law_232 : decode cL_law 232 = .ok (.aload_n 1, 1) := qr0 (P := 192) (o := 40) (op := 43) qLW3 (by decide +kernel) qo43
theorem dL_law_233 : decode cL_law 233 = .ok (.aload_n 0, 1) := qr0 (P := 192) (o := 41) (op := 42) qLW3 (by decide +kernel) qo42
theorem dL_law_234 : decode cL_law 234 = .ok (.iload 5, 2) := qr1 (P := 192) (o := 42) (op := 21) (v := 5) qLW3 (by decide +kernel) qo21
theorem dL_law_236 : decode cL_law 236 = .ok (.iconst 1, 1) := qr0 (P := 192) (o := 44) (op := 4) qLW3 (by decide +kernel) qo4
theorem dL_law_237 : decode cL_law 237 = .ok (.iadd, 1) := qr0 (P := 192) (o := 45) (op := 96) qLW3 (by decide +kernel) qo96
theorem dL_law_238 : decode cL_law 238 = .ok (.iaload, 1) := qr0 (P := 192) (o := 46) (op := 46) qLW3 (by decide +kernel) qo46
theorem dL_law_239 : decode cL_law 239 = .ok (.aload_n 0, 1) := qr0 (P := 192) (o := 47) (op := 42) qLW3 (by decide +kernel) qo42
theorem dL_law_240 : decode cL_law 240 = .ok (.iload 5, 2) := qr1 (P := 192) (o := 48) (op := 21) (v := 5) qLW3 (by decide +kernel) qo21
theorem dL_law_242 : decode cL_law 242 = .ok (.iconst 2, 1) := qr0 (P := 192) (o := 50) (op := 5) qLW3 (by decide +kernel) qo5
theorem dL_law_243 : decode cL_law 243 = .ok (.iadd, 1) := qr0 (P := 192) (o := 51) (op := 96) qLW3 (by decide +kernel) qo96
theorem dL_law_244 : decode cL_law 244 = .ok (.iaload, 1) := qr0 (P := 192) (o := 52) (op := 46) qLW3 (by decide +kernel) qo46
theorem dL_law_245 : decode cL_law 245 = .ok (.aload_n 0, 1) := qr0 (P := 192) (o := 53) (op := 42) qLW3 (by decide +kernel) qo42
theorem dL_law_246 : decode cL_law 246 = .ok (.iload 5, 2) := qr1 (P := 192) (o := 54) (op := 21) (v := 5) qLW3 (by decide +kernel) qo21
theorem dL_law_248 : decode cL_law 248 = .ok (.iconst 3, 1) := qr0 (P := 192) (o := 56) (op := 6) qLW3 (by decide +kernel) qo6
theorem dL_law_249 : decode cL_law 249 = .ok (.iadd, 1) := qr0 (P := 192) (o := 57) (op := 96) qLW3 (by decide +kernel) qo96
theorem dL_law_250 : decode cL_law 250 = .ok (.iaload, 1) := qr0 (P := 192) (o := 58) (op := 46) qLW3 (by decide +kernel) qo46
theorem dL_law_251 : decode cL_law 251 = .ok (.aload_n 0, 1) := qr0 (P := 192) (o := 59) (op := 42) qLW3 (by decide +kernel) qo42
theorem dL_law_252 : decode cL_law 252 = .ok (.iload 5, 2) := qr1 (P := 192) (o := 60) (op := 21) (v := 5) qLW3 (by decide +kernel) qo21
theorem dL_law_254 : decode cL_law 254 = .ok (.iconst 4, 1) := qr0 (P := 192) (o := 62) (op := 7) qLW3 (by decide +kernel) qo7
theorem dL_law_255 : decode cL_law 255 = .ok (.iadd, 1) := qr0 (P := 192) (o := 63) (op := 96) qLW3 (by decide +kernel) qo96
theorem dL_law_256 : decode cL_law 256 = .ok (.iaload, 1) := qr0 (P := 256) (o := 0) (op := 46) qLW4 (by decide +kernel) qo46
theorem dL_law_257 : decode cL_law 257 = .ok (.aload_n 0, 1) := qr0 (P := 256) (o := 1) (op := 42) qLW4 (by decide +kernel) qo42
theorem dL_law_258 : decode cL_law 258 = .ok (.iload 5, 2) := qr1 (P := 256) (o := 2) (op := 21) (v := 5) qLW4 (by decide +kernel) qo21
theorem dL_law_260 : decode cL_law 260 = .ok (.iconst 5, 1) := qr0 (P := 256) (o := 4) (op := 8) qLW4 (by decide +kernel) qo8
theorem dL_law_261 : decode cL_law 261 = .ok (.iadd, 1) := qr0 (P := 256) (o := 5) (op := 96) qLW4 (by decide +kernel) qo96
theorem dL_law_262 : decode cL_law 262 = .ok (.iaload, 1) := qr0 (P := 256) (o := 6) (op := 46) qLW4 (by decide +kernel) qo46
theorem dL_law_263 : decode cL_law 263 = .ok (.aload_n 3, 1) := qr0 (P := 256) (o := 7) (op := 45) qLW4 (by decide +kernel) qo45
theorem dL_law_264 : decode cL_law 264 = .ok (.invokestatic 149, 3) := qr2 (P := 256) (o := 8) (op := 184) (v := 149) qLW4 (by decide +kernel) qo184
theorem dL_law_267 : decode cL_law 267 = .ok (.istore 6, 2) := qr1 (P := 256) (o := 11) (op := 54) (v := 6) qLW4 (by decide +kernel) qo54
theorem dL_law_269 : decode cL_law 269 = .ok (.aload_n 2, 1) := qr0 (P := 256) (o := 13) (op := 44) qLW4 (by decide +kernel) qo44
theorem dL_law_270 : decode cL_law 270 = .ok (.aload_n 0, 1) := qr0 (P := 256) (o := 14) (op := 42) qLW4 (by decide +kernel) qo42
theorem dL_law_271 : decode cL_law 271 = .ok (.iload 5, 2) := qr1 (P := 256) (o := 15) (op := 21) (v := 5) qLW4 (by decide +kernel) qo21
theorem dL_law_273 : decode cL_law 273 = .ok (.iconst 1, 1) := qr0 (P := 256) (o := 17) (op := 4) qLW4 (by decide +kernel) qo4
theorem dL_law_274 : decode cL_law 274 = .ok (.iadd, 1) := qr0 (P := 256) (o := 18) (op := 96) qLW4 (by decide +kernel) qo96
theorem dL_law_275 : decode cL_law 275 = .ok (.iaload, 1) := qr0 (P := 256) (o := 19) (op := 46) qLW4 (by decide +kernel) qo46
theorem dL_law_276 : decode cL_law 276 = .ok (.aload_n 0, 1) := qr0 (P := 256) (o := 20) (op := 42) qLW4 (by decide +kernel) qo42
theorem dL_law_277 : decode cL_law 277 = .ok (.iload 5, 2) := qr1 (P := 256) (o := 21) (op := 21) (v := 5) qLW4 (by decide +kernel) qo21
theorem dL_law_279 : decode cL_law 279 = .ok (.iconst 2, 1) := qr0 (P := 256) (o := 23) (op := 5) qLW4 (by decide +kernel) qo5
theorem dL_law_280 : decode cL_law 280 = .ok (.iadd, 1) := qr0 (P := 256) (o := 24) (op := 96) qLW4 (by decide +kernel) qo96
theorem dL_law_281 : decode cL_law 281 = .ok (.iaload, 1) := qr0 (P := 256) (o := 25) (op := 46) qLW4 (by decide +kernel) qo46
theorem dL_law_282 : decode cL_law 282 = .ok (.aload_n 0, 1) := qr0 (P := 256) (o := 26) (op := 42) qLW4 (by decide +kernel) qo42
theorem dL_law_283 : decode cL_law 283 = .ok (.iload 5, 2) := qr1 (P := 256) (o := 27) (op := 21) (v := 5) qLW4 (by decide +kernel) qo21
theorem dL_law_285 : decode cL_law 285 = .ok (.iconst 3, 1) := qr0 (P := 256) (o := 29) (op := 6) qLW4 (by decide +kernel) qo6
theorem dL_law_286 : decode cL_law 286 = .ok (.iadd, 1) := qr0 (P := 256) (o := 30) (op := 96) qLW4 (by decide +kernel) qo96
theorem dL_law_287 : decode cL_law 287 = .ok (.iaload, 1) := qr0 (P := 256) (o := 31) (op := 46) qLW4 (by decide +kernel) qo46
theorem dL_law_288 : decode cL_law 288 = .ok (.aload_n 0, 1) := qr0 (P := 256) (o := 32) (op := 42) qLW4 (by decide +kernel) qo42
theorem dL_law_289 : decode cL_law 289 = .ok (.iload 5, 2) := qr1 (P := 256) (o := 33) (op := 21) (v := 5) qLW4 (by decide +kernel) qo21
theorem dL_law_291 : decode cL_law 291 = .ok (.iconst 4, 1) := qr0 (P := 256) (o := 35) (op := 7) qLW4 (by decide +kernel) qo7
theorem dL_law_292 : decode cL_law 292 = .ok (.iadd, 1) := qr0 (P := 256) (o := 36) (op := 96) qLW4 (by decide +kernel) qo96
theorem dL_law_293 : decode cL_law 293 = .ok (.iaload, 1) := qr0 (P := 256) (o := 37) (op := 46) qLW4 (by decide +kernel) qo46
theorem dL_law_294 : decode cL_law 294 = .ok (.aload_n 0, 1) := qr0 (P := 256) (o := 38) (op := 42) qLW4 (by decide +kernel) qo42
theorem dL_law_295 : decode cL_law 295 = .ok (.iload 5, 2) := qr1 (P := 256) (o := 39) (op := 21) (v := 5) qLW4 (by decide +kernel) qo21
theorem dL_law_297 : decode cL_law 297 = .ok (.iconst 5, 1) := qr0 (P := 256) (o := 41) (op := 8) qLW4 (by decide +kernel) qo8
theorem dL_law_298 : decode cL_law 298 = .ok (.iadd, 1) := qr0 (P := 256) (o := 42) (op := 96) qLW4 (by decide +kernel) qo96
theorem dL_law_299 : decode cL_law 299 = .ok (.iaload, 1) := qr0 (P := 256) (o := 43) (op := 46) qLW4 (by decide +kernel) qo46
theorem dL_law_300 : decode cL_law 300 = .ok (.invokevirtual 154, 3) := qr2 (P := 256) (o := 44) (op := 182) (v := 154) qLW4 (by decide +kernel) qo182
theorem dL_law_303 : decode cL_law 303 = .ok (.istore 7, 2) := qr1 (P := 256) (o := 47) (op := 54) (v := 7) qLW4 (by decide +kernel) qo54
theorem dL_law_305 : decode cL_law 305 = .ok (.goto 1636, 3) := qr2 (P := 256) (o := 49) (op := 167) (v := 1636) qLW4 (by decide +kernel) (fun h h2 => qo167 h (qs2 h2 (by decide +kernel)))
theorem dL_law_308 : decode cL_law 308 = .ok (.aload_n 1, 1) := qr0 (P := 256) (o := 52) (op := 43) qLW4 (by decide +kernel) qo43
theorem dL_law_309 : decode cL_law 309 = .ok (.aload_n 0, 1) := qr0 (P := 256) (o := 53) (op := 42) qLW4 (by decide +kernel) qo42
theorem dL_law_310 : decode cL_law 310 = .ok (.iload 5, 2) := qr1 (P := 256) (o := 54) (op := 21) (v := 5) qLW4 (by decide +kernel) qo21
theorem dL_law_312 : decode cL_law 312 = .ok (.iconst 1, 1) := qr0 (P := 256) (o := 56) (op := 4) qLW4 (by decide +kernel) qo4
theorem dL_law_313 : decode cL_law 313 = .ok (.iadd, 1) := qr0 (P := 256) (o := 57) (op := 96) qLW4 (by decide +kernel) qo96
theorem dL_law_314 : decode cL_law 314 = .ok (.iaload, 1) := qr0 (P := 256) (o := 58) (op := 46) qLW4 (by decide +kernel) qo46
theorem dL_law_315 : decode cL_law 315 = .ok (.aload_n 3, 1) := qr0 (P := 256) (o := 59) (op := 45) qLW4 (by decide +kernel) qo45
theorem dL_law_316 : decode cL_law 316 = .ok (.invokestatic 155, 3) := qr2 (P := 256) (o := 60) (op := 184) (v := 155) qLW4 (by decide +kernel) qo184
theorem dL_law_319 : decode cL_law 319 = .ok (.istore 6, 2) := qr1 (P := 256) (o := 63) (op := 54) (v := 6) qLW4 (by decide +kernel) qo54
theorem dL_law_321 : decode cL_law 321 = .ok (.aload_n 2, 1) := qr0 (P := 320) (o := 1) (op := 44) qLW5 (by decide +kernel) qo44
theorem dL_law_322 : decode cL_law 322 = .ok (.aload_n 0, 1) := qr0 (P := 320) (o := 2) (op := 42) qLW5 (by decide +kernel) qo42
theorem dL_law_323 : decode cL_law 323 = .ok (.iload 5, 2) := qr1 (P := 320) (o := 3) (op := 21) (v := 5) qLW5 (by decide +kernel) qo21
theorem dL_law_325 : decode cL_law 325 = .ok (.iconst 1, 1) := qr0 (P := 320) (o := 5) (op := 4) qLW5 (by decide +kernel) qo4
theorem dL_law_326 : decode cL_law 326 = .ok (.iadd, 1) := qr0 (P := 320) (o := 6) (op := 96) qLW5 (by decide +kernel) qo96
theorem dL_law_327 : decode cL_law 327 = .ok (.iaload, 1) := qr0 (P := 320) (o := 7) (op := 46) qLW5 (by decide +kernel) qo46
theorem dL_law_328 : decode cL_law 328 = .ok (.invokevirtual 158, 3) := qr2 (P := 320) (o := 8) (op := 182) (v := 158) qLW5 (by decide +kernel) qo182
theorem dL_law_331 : decode cL_law 331 = .ok (.istore 7, 2) := qr1 (P := 320) (o := 11) (op := 54) (v := 7) qLW5 (by decide +kernel) qo54
theorem dL_law_333 : decode cL_law 333 = .ok (.aload_n 2, 1) := qr0 (P := 320) (o := 13) (op := 44) qLW5 (by decide +kernel) qo44
theorem dL_law_334 : decode cL_law 334 = .ok (.invokevirtual 159, 3) := qr2 (P := 320) (o := 14) (op := 182) (v := 159) qLW5 (by decide +kernel) qo182
theorem dL_law_337 : decode cL_law 337 = .ok (.iload 6, 2) := qr1 (P := 320) (o := 17) (op := 21) (v := 6) qLW5 (by decide +kernel) qo21
theorem dL_law_339 : decode cL_law 339 = .ok (.if_icmp .eq 5, 3) := qr2 (P := 320) (o := 19) (op := 159) (v := 5) qLW5 (by decide +kernel) (fun h h2 => qo159 h (qs2 h2 (by decide +kernel)))
theorem dL_law_342 : decode cL_law 342 = .ok (.iconst 0, 1) := qr0 (P := 320) (o := 22) (op := 3) qLW5 (by decide +kernel) qo3
theorem dL_law_343 : decode cL_law 343 = .ok (.ireturn, 1) := qr0 (P := 320) (o := 23) (op := 172) qLW5 (by decide +kernel) qo172
theorem dL_law_344 : decode cL_law 344 = .ok (.iload 6, 2) := qr1 (P := 320) (o := 24) (op := 21) (v := 6) qLW5 (by decide +kernel) qo21
theorem dL_law_346 : decode cL_law 346 = .ok (.ifCond .ne 15, 3) := qr2 (P := 320) (o := 26) (op := 154) (v := 15) qLW5 (by decide +kernel) (fun h h2 => qo154 h (qs2 h2 (by decide +kernel)))
theorem dL_law_349 : decode cL_law 349 = .ok (.aload_n 3, 1) := qr0 (P := 320) (o := 29) (op := 45) qLW5 (by decide +kernel) qo45
theorem dL_law_350 : decode cL_law 350 = .ok (.iconst 0, 1) := qr0 (P := 320) (o := 30) (op := 3) qLW5 (by decide +kernel) qo3
theorem dL_law_351 : decode cL_law 351 = .ok (.laload, 1) := qr0 (P := 320) (o := 31) (op := 47) qLW5 (by decide +kernel) qo47
theorem dL_law_352 : decode cL_law 352 = .ok (.iload 7, 2) := qr1 (P := 320) (o := 32) (op := 21) (v := 7) qLW5 (by decide +kernel) qo21
theorem dL_law_354 : decode cL_law 354 = .ok (.i2l, 1) := qr0 (P := 320) (o := 34) (op := 133) qLW5 (by decide +kernel) qo133
theorem dL_law_355 : decode cL_law 355 = .ok (.lcmp, 1) := qr0 (P := 320) (o := 35) (op := 148) qLW5 (by decide +kernel) qo148
theorem dL_law_356 : decode cL_law 356 = .ok (.ifCond .eq 5, 3) := qr2 (P := 320) (o := 36) (op := 153) (v := 5) qLW5 (by decide +kernel) (fun h h2 => qo153 h (qs2 h2 (by decide +kernel)))
theorem dL_law_359 : decode cL_law 359 = .ok (.iconst 0, 1) := qr0 (P := 320) (o := 39) (op := 3) qLW5 (by decide +kernel) qo3
theorem dL_law_360 : decode cL_law 360 = .ok (.ireturn, 1) := qr0 (P := 320) (o := 40) (op := 172) qLW5 (by decide +kernel) qo172
theorem dL_law_361 : decode cL_law 361 = .ok (.goto 1580, 3) := qr2 (P := 320) (o := 41) (op := 167) (v := 1580) qLW5 (by decide +kernel) (fun h h2 => qo167 h (qs2 h2 (by decide +kernel)))
theorem dL_law_364 : decode cL_law 364 = .ok (.aload_n 1, 1) := qr0 (P := 320) (o := 44) (op := 43) qLW5 (by decide +kernel) qo43
theorem dL_law_365 : decode cL_law 365 = .ok (.aload_n 0, 1) := qr0 (P := 320) (o := 45) (op := 42) qLW5 (by decide +kernel) qo42
theorem dL_law_366 : decode cL_law 366 = .ok (.iload 5, 2) := qr1 (P := 320) (o := 46) (op := 21) (v := 5) qLW5 (by decide +kernel) qo21
theorem dL_law_368 : decode cL_law 368 = .ok (.iconst 1, 1) := qr0 (P := 320) (o := 48) (op := 4) qLW5 (by decide +kernel) qo4
theorem dL_law_369 : decode cL_law 369 = .ok (.iadd, 1) := qr0 (P := 320) (o := 49) (op := 96) qLW5 (by decide +kernel) qo96
theorem dL_law_370 : decode cL_law 370 = .ok (.iaload, 1) := qr0 (P := 320) (o := 50) (op := 46) qLW5 (by decide +kernel) qo46
theorem dL_law_371 : decode cL_law 371 = .ok (.aload_n 3, 1) := qr0 (P := 320) (o := 51) (op := 45) qLW5 (by decide +kernel) qo45
theorem dL_law_372 : decode cL_law 372 = .ok (.invokestatic 162, 3) := qr2 (P := 320) (o := 52) (op := 184) (v := 162) qLW5 (by decide +kernel) qo184
theorem dL_law_375 : decode cL_law 375 = .ok (.istore 6, 2) := qr1 (P := 320) (o := 55) (op := 54) (v := 6) qLW5 (by decide +kernel) qo54
theorem dL_law_377 : decode cL_law 377 = .ok (.aload_n 2, 1) := qr0 (P := 320) (o := 57) (op := 44) qLW5 (by decide +kernel) qo44
theorem dL_law_378 : decode cL_law 378 = .ok (.aload_n 0, 1) := qr0 (P := 320) (o := 58) (op := 42) qLW5 (by decide +kernel) qo42
theorem dL_law_379 : decode cL_law 379 = .ok (.iload 5, 2) := qr1 (P := 320) (o := 59) (op := 21) (v := 5) qLW5 (by decide +kernel) qo21
theorem dL_law_381 : decode cL_law 381 = .ok (.iconst 1, 1) := qr0 (P := 320) (o := 61) (op := 4) qLW5 (by decide +kernel) qo4
theorem dL_law_382 : decode cL_law 382 = .ok (.iadd, 1) := qr0 (P := 320) (o := 62) (op := 96) qLW5 (by decide +kernel) qo96
theorem dL_law_383 : decode cL_law 383 = .ok (.iaload, 1) := qr0 (P := 320) (o := 63) (op := 46) qLW5 (by decide +kernel) qo46
theorem dL_law_384 : decode cL_law 384 = .ok (.invokevirtual 164, 3) := qr2 (P := 384) (o := 0) (op := 182) (v := 164) qLW6 (by decide +kernel) qo182
theorem dL_law_387 : decode cL_law 387 = .ok (.istore 7, 2) := qr1 (P := 384) (o := 3) (op := 54) (v := 7) qLW6 (by decide +kernel) qo54
theorem dL_law_389 : decode cL_law 389 = .ok (.goto 1552, 3) := qr2 (P := 384) (o := 5) (op := 167) (v := 1552) qLW6 (by decide +kernel) (fun h h2 => qo167 h (qs2 h2 (by decide +kernel)))
theorem dL_law_392 : decode cL_law 392 = .ok (.aload_n 1, 1) := qr0 (P := 384) (o := 8) (op := 43) qLW6 (by decide +kernel) qo43
theorem dL_law_393 : decode cL_law 393 = .ok (.aload_n 0, 1) := qr0 (P := 384) (o := 9) (op := 42) qLW6 (by decide +kernel) qo42
theorem dL_law_394 : decode cL_law 394 = .ok (.iload 5, 2) := qr1 (P := 384) (o := 10) (op := 21) (v := 5) qLW6 (by decide +kernel) qo21
theorem dL_law_396 : decode cL_law 396 = .ok (.iconst 1, 1) := qr0 (P := 384) (o := 12) (op := 4) qLW6 (by decide +kernel) qo4
theorem dL_law_397 : decode cL_law 397 = .ok (.iadd, 1) := qr0 (P := 384) (o := 13) (op := 96) qLW6 (by decide +kernel) qo96
theorem dL_law_398 : decode cL_law 398 = .ok (.iaload, 1) := qr0 (P := 384) (o := 14) (op := 46) qLW6 (by decide +kernel) qo46
theorem dL_law_399 : decode cL_law 399 = .ok (.aload_n 3, 1) := qr0 (P := 384) (o := 15) (op := 45) qLW6 (by decide +kernel) qo45
theorem dL_law_400 : decode cL_law 400 = .ok (.invokestatic 165, 3) := qr2 (P := 384) (o := 16) (op := 184) (v := 165) qLW6 (by decide +kernel) qo184
theorem dL_law_403 : decode cL_law 403 = .ok (.istore 6, 2) := qr1 (P := 384) (o := 19) (op := 54) (v := 6) qLW6 (by decide +kernel) qo54
theorem dL_law_405 : decode cL_law 405 = .ok (.aload_n 2, 1) := qr0 (P := 384) (o := 21) (op := 44) qLW6 (by decide +kernel) qo44
theorem dL_law_406 : decode cL_law 406 = .ok (.aload_n 0, 1) := qr0 (P := 384) (o := 22) (op := 42) qLW6 (by decide +kernel) qo42
theorem dL_law_407 : decode cL_law 407 = .ok (.iload 5, 2) := qr1 (P := 384) (o := 23) (op := 21) (v := 5) qLW6 (by decide +kernel) qo21
theorem dL_law_409 : decode cL_law 409 = .ok (.iconst 1, 1) := qr0 (P := 384) (o := 25) (op := 4) qLW6 (by decide +kernel) qo4
theorem dL_law_410 : decode cL_law 410 = .ok (.iadd, 1) := qr0 (P := 384) (o := 26) (op := 96) qLW6 (by decide +kernel) qo96
theorem dL_law_411 : decode cL_law 411 = .ok (.iaload, 1) := qr0 (P := 384) (o := 27) (op := 46) qLW6 (by decide +kernel) qo46
theorem dL_law_412 : decode cL_law 412 = .ok (.invokevirtual 167, 3) := qr2 (P := 384) (o := 28) (op := 182) (v := 167) qLW6 (by decide +kernel) qo182
theorem dL_law_415 : decode cL_law 415 = .ok (.istore 7, 2) := qr1 (P := 384) (o := 31) (op := 54) (v := 7) qLW6 (by decide +kernel) qo54
theorem dL_law_417 : decode cL_law 417 = .ok (.goto 1524, 3) := qr2 (P := 384) (o := 33) (op := 167) (v := 1524) qLW6 (by decide +kernel) (fun h h2 => qo167 h (qs2 h2 (by decide +kernel)))
theorem dL_law_420 : decode cL_law 420 = .ok (.aload_n 1, 1) := qr0 (P := 384) (o := 36) (op := 43) qLW6 (by decide +kernel) qo43
theorem dL_law_421 : decode cL_law 421 = .ok (.invokevirtual 168, 3) := qr2 (P := 384) (o := 37) (op := 182) (v := 168) qLW6 (by decide +kernel) qo182
theorem dL_law_424 : decode cL_law 424 = .ok (.pop, 1) := qr0 (P := 384) (o := 40) (op := 87) qLW6 (by decide +kernel) qo87
theorem dL_law_425 : decode cL_law 425 = .ok (.aload_n 2, 1) := qr0 (P := 384) (o := 41) (op := 44) qLW6 (by decide +kernel) qo44
theorem dL_law_426 : decode cL_law 426 = .ok (.invokevirtual 171, 3) := qr2 (P := 384) (o := 42) (op := 182) (v := 171) qLW6 (by decide +kernel) qo182
theorem dL_law_429 : decode cL_law 429 = .ok (.pop, 1) := qr0 (P := 384) (o := 45) (op := 87) qLW6 (by decide +kernel) qo87
theorem dL_law_430 : decode cL_law 430 = .ok (.goto 1511, 3) := qr2 (P := 384) (o := 46) (op := 167) (v := 1511) qLW6 (by decide +kernel) (fun h h2 => qo167 h (qs2 h2 (by decide +kernel)))
theorem dL_law_433 : decode cL_law 433 = .ok (.aload_n 1, 1) := qr0 (P := 384) (o := 49) (op := 43) qLW6 (by decide +kernel) qo43
theorem dL_law_434 : decode cL_law 434 = .ok (.aload_n 0, 1) := qr0 (P := 384) (o := 50) (op := 42) qLW6 (by decide +kernel) qo42
theorem dL_law_435 : decode cL_law 435 = .ok (.iload 5, 2) := qr1 (P := 384) (o := 51) (op := 21) (v := 5) qLW6 (by decide +kernel) qo21
theorem dL_law_437 : decode cL_law 437 = .ok (.iconst 1, 1) := qr0 (P := 384) (o := 53) (op := 4) qLW6 (by decide +kernel) qo4
theorem dL_law_438 : decode cL_law 438 = .ok (.iadd, 1) := qr0 (P := 384) (o := 54) (op := 96) qLW6 (by decide +kernel) qo96
theorem dL_law_439 : decode cL_law 439 = .ok (.iaload, 1) := qr0 (P := 384) (o := 55) (op := 46) qLW6 (by decide +kernel) qo46
theorem dL_law_440 : decode cL_law 440 = .ok (.aload_n 3, 1) := qr0 (P := 384) (o := 56) (op := 45) qLW6 (by decide +kernel) qo45
theorem dL_law_441 : decode cL_law 441 = .ok (.invokestatic 172, 3) := qr2 (P := 384) (o := 57) (op := 184) (v := 172) qLW6 (by decide +kernel) qo184
theorem dL_law_444 : decode cL_law 444 = .ok (.istore 6, 2) := qr1 (P := 384) (o := 60) (op := 54) (v := 6) qLW6 (by decide +kernel) qo54
theorem dL_law_446 : decode cL_law 446 = .ok (.aload_n 2, 1) := qr0 (P := 384) (o := 62) (op := 44) qLW6 (by decide +kernel) qo44
theorem dL_law_447 : decode cL_law 447 = .ok (.aload_n 0, 1) := qr0 (P := 384) (o := 63) (op := 42) qLW6 (by decide +kernel) qo42
theorem dL_law_448 : decode cL_law 448 = .ok (.iload 5, 2) := qr1 (P := 448) (o := 0) (op := 21) (v := 5) qLW7 (by decide +kernel) qo21
theorem dL_law_450 : decode cL_law 450 = .ok (.iconst 1, 1) := qr0 (P := 448) (o := 2) (op := 4) qLW7 (by decide +kernel) qo4
theorem dL_law_451 : decode cL_law 451 = .ok (.iadd, 1) := qr0 (P := 448) (o := 3) (op := 96) qLW7 (by decide +kernel) qo96
theorem dL_law_452 : decode cL_law 452 = .ok (.iaload, 1) := qr0 (P := 448) (o := 4) (op := 46) qLW7 (by decide +kernel) qo46
theorem dL_law_453 : decode cL_law 453 = .ok (.invokevirtual 174, 3) := qr2 (P := 448) (o := 5) (op := 182) (v := 174) qLW7 (by decide +kernel) qo182
theorem dL_law_456 : decode cL_law 456 = .ok (.istore 7, 2) := qr1 (P := 448) (o := 8) (op := 54) (v := 7) qLW7 (by decide +kernel) qo54
theorem dL_law_458 : decode cL_law 458 = .ok (.goto 1483, 3) := qr2 (P := 448) (o := 10) (op := 167) (v := 1483) qLW7 (by decide +kernel) (fun h h2 => qo167 h (qs2 h2 (by decide +kernel)))
theorem dL_law_461 : decode cL_law 461 = .ok (.aload_n 1, 1) := qr0 (P := 448) (o := 13) (op := 43) qLW7 (by decide +kernel) qo43
theorem dL_law_462 : decode cL_law 462 = .ok (.aload_n 0, 1) := qr0 (P := 448) (o := 14) (op := 42) qLW7 (by decide +kernel) qo42
theorem dL_law_463 : decode cL_law 463 = .ok (.iload 5, 2) := qr1 (P := 448) (o := 15) (op := 21) (v := 5) qLW7 (by decide +kernel) qo21
theorem dL_law_465 : decode cL_law 465 = .ok (.iconst 1, 1) := qr0 (P := 448) (o := 17) (op := 4) qLW7 (by decide +kernel) qo4
theorem dL_law_466 : decode cL_law 466 = .ok (.iadd, 1) := qr0 (P := 448) (o := 18) (op := 96) qLW7 (by decide +kernel) qo96
theorem dL_law_467 : decode cL_law 467 = .ok (.iaload, 1) := qr0 (P := 448) (o := 19) (op := 46) qLW7 (by decide +kernel) qo46
theorem dL_law_468 : decode cL_law 468 = .ok (.aload_n 3, 1) := qr0 (P := 448) (o := 20) (op := 45) qLW7 (by decide +kernel) qo45
theorem dL_law_469 : decode cL_law 469 = .ok (.invokestatic 175, 3) := qr2 (P := 448) (o := 21) (op := 184) (v := 175) qLW7 (by decide +kernel) qo184
theorem dL_law_472 : decode cL_law 472 = .ok (.istore 6, 2) := qr1 (P := 448) (o := 24) (op := 54) (v := 6) qLW7 (by decide +kernel) qo54
theorem dL_law_474 : decode cL_law 474 = .ok (.aload_n 2, 1) := qr0 (P := 448) (o := 26) (op := 44) qLW7 (by decide +kernel) qo44
theorem dL_law_475 : decode cL_law 475 = .ok (.aload_n 0, 1) := qr0 (P := 448) (o := 27) (op := 42) qLW7 (by decide +kernel) qo42
theorem dL_law_476 : decode cL_law 476 = .ok (.iload 5, 2) := qr1 (P := 448) (o := 28) (op := 21) (v := 5) qLW7 (by decide +kernel) qo21
theorem dL_law_478 : decode cL_law 478 = .ok (.iconst 1, 1) := qr0 (P := 448) (o := 30) (op := 4) qLW7 (by decide +kernel) qo4
theorem dL_law_479 : decode cL_law 479 = .ok (.iadd, 1) := qr0 (P := 448) (o := 31) (op := 96) qLW7 (by decide +kernel) qo96
theorem dL_law_480 : decode cL_law 480 = .ok (.iaload, 1) := qr0 (P := 448) (o := 32) (op := 46) qLW7 (by decide +kernel) qo46
theorem dL_law_481 : decode cL_law 481 = .ok (.invokevirtual 177, 3) := qr2 (P := 448) (o := 33) (op := 182) (v := 177) qLW7 (by decide +kernel) qo182
theorem dL_law_484 : decode cL_law 484 = .ok (.istore 7, 2) := qr1 (P := 448) (o := 36) (op := 54) (v := 7) qLW7 (by decide +kernel) qo54
theorem dL_law_486 : decode cL_law 486 = .ok (.goto 1455, 3) := qr2 (P := 448) (o := 38) (op := 167) (v := 1455) qLW7 (by decide +kernel) (fun h h2 => qo167 h (qs2 h2 (by decide +kernel)))
theorem dL_law_489 : decode cL_law 489 = .ok (.aload_n 1, 1) := qr0 (P := 448) (o := 41) (op := 43) qLW7 (by decide +kernel) qo43
theorem dL_law_490 : decode cL_law 490 = .ok (.aload_n 0, 1) := qr0 (P := 448) (o := 42) (op := 42) qLW7 (by decide +kernel) qo42
theorem dL_law_491 : decode cL_law 491 = .ok (.iload 5, 2) := qr1 (P := 448) (o := 43) (op := 21) (v := 5) qLW7 (by decide +kernel) qo21
theorem dL_law_493 : decode cL_law 493 = .ok (.iconst 1, 1) := qr0 (P := 448) (o := 45) (op := 4) qLW7 (by decide +kernel) qo4
theorem dL_law_494 : decode cL_law 494 = .ok (.iadd, 1) := qr0 (P := 448) (o := 46) (op := 96) qLW7 (by decide +kernel) qo96
theorem dL_law_495 : decode cL_law 495 = .ok (.iaload, 1) := qr0 (P := 448) (o := 47) (op := 46) qLW7 (by decide +kernel) qo46
theorem dL_law_496 : decode cL_law 496 = .ok (.aload_n 3, 1) := qr0 (P := 448) (o := 48) (op := 45) qLW7 (by decide +kernel) qo45
theorem dL_law_497 : decode cL_law 497 = .ok (.invokestatic 178, 3) := qr2 (P := 448) (o := 49) (op := 184) (v := 178) qLW7 (by decide +kernel) qo184
theorem dL_law_500 : decode cL_law 500 = .ok (.istore 6, 2) := qr1 (P := 448) (o := 52) (op := 54) (v := 6) qLW7 (by decide +kernel) qo54
theorem dL_law_502 : decode cL_law 502 = .ok (.aload_n 2, 1) := qr0 (P := 448) (o := 54) (op := 44) qLW7 (by decide +kernel) qo44
theorem dL_law_503 : decode cL_law 503 = .ok (.aload_n 0, 1) := qr0 (P := 448) (o := 55) (op := 42) qLW7 (by decide +kernel) qo42
theorem dL_law_504 : decode cL_law 504 = .ok (.iload 5, 2) := qr1 (P := 448) (o := 56) (op := 21) (v := 5) qLW7 (by decide +kernel) qo21
theorem dL_law_506 : decode cL_law 506 = .ok (.iconst 1, 1) := qr0 (P := 448) (o := 58) (op := 4) qLW7 (by decide +kernel) qo4
theorem dL_law_507 : decode cL_law 507 = .ok (.iadd, 1) := qr0 (P := 448) (o := 59) (op := 96) qLW7 (by decide +kernel) qo96
theorem dL_law_508 : decode cL_law 508 = .ok (.iaload, 1) := qr0 (P := 448) (o := 60) (op := 46) qLW7 (by decide +kernel) qo46
theorem dL_law_509 : decode cL_law 509 = .ok (.invokevirtual 180, 3) := qr2 (P := 448) (o := 61) (op := 182) (v := 180) qLW7 (by decide +kernel) qo182
theorem dL_law_512 : decode cL_law 512 = .ok (.istore 7, 2) := qr1 (P := 512) (o := 0) (op := 54) (v := 7) qLW8 (by decide +kernel) qo54
theorem dL_law_514 : decode cL_law 514 = .ok (.goto 1427, 3) := qr2 (P := 512) (o := 2) (op := 167) (v := 1427) qLW8 (by decide +kernel) (fun h h2 => qo167 h (qs2 h2 (by decide +kernel)))
theorem dL_law_517 : decode cL_law 517 = .ok (.aload_n 1, 1) := qr0 (P := 512) (o := 5) (op := 43) qLW8 (by decide +kernel) qo43
theorem dL_law_518 : decode cL_law 518 = .ok (.aload_n 0, 1) := qr0 (P := 512) (o := 6) (op := 42) qLW8 (by decide +kernel) qo42
theorem dL_law_519 : decode cL_law 519 = .ok (.iload 5, 2) := qr1 (P := 512) (o := 7) (op := 21) (v := 5) qLW8 (by decide +kernel) qo21
theorem dL_law_521 : decode cL_law 521 = .ok (.iconst 1, 1) := qr0 (P := 512) (o := 9) (op := 4) qLW8 (by decide +kernel) qo4
theorem dL_law_522 : decode cL_law 522 = .ok (.iadd, 1) := qr0 (P := 512) (o := 10) (op := 96) qLW8 (by decide +kernel) qo96
theorem dL_law_523 : decode cL_law 523 = .ok (.iaload, 1) := qr0 (P := 512) (o := 11) (op := 46) qLW8 (by decide +kernel) qo46
theorem dL_law_524 : decode cL_law 524 = .ok (.aload_n 0, 1) := qr0 (P := 512) (o := 12) (op := 42) qLW8 (by decide +kernel) qo42
theorem dL_law_525 : decode cL_law 525 = .ok (.iload 5, 2) := qr1 (P := 512) (o := 13) (op := 21) (v := 5) qLW8 (by decide +kernel) qo21
theorem dL_law_527 : decode cL_law 527 = .ok (.iconst 2, 1) := qr0 (P := 512) (o := 15) (op := 5) qLW8 (by decide +kernel) qo5
theorem dL_law_528 : decode cL_law 528 = .ok (.iadd, 1) := qr0 (P := 512) (o := 16) (op := 96) qLW8 (by decide +kernel) qo96
theorem dL_law_529 : decode cL_law 529 = .ok (.iaload, 1) := qr0 (P := 512) (o := 17) (op := 46) qLW8 (by decide +kernel) qo46
theorem dL_law_530 : decode cL_law 530 = .ok (.aload_n 3, 1) := qr0 (P := 512) (o := 18) (op := 45) qLW8 (by decide +kernel) qo45
theorem dL_law_531 : decode cL_law 531 = .ok (.invokestatic 181, 3) := qr2 (P := 512) (o := 19) (op := 184) (v := 181) qLW8 (by decide +kernel) qo184
theorem dL_law_534 : decode cL_law 534 = .ok (.istore 6, 2) := qr1 (P := 512) (o := 22) (op := 54) (v := 6) qLW8 (by decide +kernel) qo54
theorem dL_law_536 : decode cL_law 536 = .ok (.aload_n 2, 1) := qr0 (P := 512) (o := 24) (op := 44) qLW8 (by decide +kernel) qo44
theorem dL_law_537 : decode cL_law 537 = .ok (.aload_n 0, 1) := qr0 (P := 512) (o := 25) (op := 42) qLW8 (by decide +kernel) qo42
theorem dL_law_538 : decode cL_law 538 = .ok (.iload 5, 2) := qr1 (P := 512) (o := 26) (op := 21) (v := 5) qLW8 (by decide +kernel) qo21
theorem dL_law_540 : decode cL_law 540 = .ok (.iconst 1, 1) := qr0 (P := 512) (o := 28) (op := 4) qLW8 (by decide +kernel) qo4
theorem dL_law_541 : decode cL_law 541 = .ok (.iadd, 1) := qr0 (P := 512) (o := 29) (op := 96) qLW8 (by decide +kernel) qo96
theorem dL_law_542 : decode cL_law 542 = .ok (.iaload, 1) := qr0 (P := 512) (o := 30) (op := 46) qLW8 (by decide +kernel) qo46
theorem dL_law_543 : decode cL_law 543 = .ok (.aload_n 0, 1) := qr0 (P := 512) (o := 31) (op := 42) qLW8 (by decide +kernel) qo42
theorem dL_law_544 : decode cL_law 544 = .ok (.iload 5, 2) := qr1 (P := 512) (o := 32) (op := 21) (v := 5) qLW8 (by decide +kernel) qo21
theorem dL_law_546 : decode cL_law 546 = .ok (.iconst 2, 1) := qr0 (P := 512) (o := 34) (op := 5) qLW8 (by decide +kernel) qo5
theorem dL_law_547 : decode cL_law 547 = .ok (.iadd, 1) := qr0 (P := 512) (o := 35) (op := 96) qLW8 (by decide +kernel) qo96
theorem dL_law_548 : decode cL_law 548 = .ok (.iaload, 1) := qr0 (P := 512) (o := 36) (op := 46) qLW8 (by decide +kernel) qo46
theorem dL_law_549 : decode cL_law 549 = .ok (.invokevirtual 184, 3) := qr2 (P := 512) (o := 37) (op := 182) (v := 184) qLW8 (by decide +kernel) qo182
theorem dL_law_552 : decode cL_law 552 = .ok (.istore 7, 2) := qr1 (P := 512) (o := 40) (op := 54) (v := 7) qLW8 (by decide +kernel) qo54
theorem dL_law_554 : decode cL_law 554 = .ok (.goto 1387, 3) := qr2 (P := 512) (o := 42) (op := 167) (v := 1387) qLW8 (by decide +kernel) (fun h h2 => qo167 h (qs2 h2 (by decide +kernel)))
theorem dL_law_557 : decode cL_law 557 = .ok (.aload_n 1, 1) := qr0 (P := 512) (o := 45) (op := 43) qLW8 (by decide +kernel) qo43
theorem dL_law_558 : decode cL_law 558 = .ok (.aload_n 0, 1) := qr0 (P := 512) (o := 46) (op := 42) qLW8 (by decide +kernel) qo42
theorem dL_law_559 : decode cL_law 559 = .ok (.iload 5, 2) := qr1 (P := 512) (o := 47) (op := 21) (v := 5) qLW8 (by decide +kernel) qo21
theorem dL_law_561 : decode cL_law 561 = .ok (.iconst 1, 1) := qr0 (P := 512) (o := 49) (op := 4) qLW8 (by decide +kernel) qo4
theorem dL_law_562 : decode cL_law 562 = .ok (.iadd, 1) := qr0 (P := 512) (o := 50) (op := 96) qLW8 (by decide +kernel) qo96
theorem dL_law_563 : decode cL_law 563 = .ok (.iaload, 1) := qr0 (P := 512) (o := 51) (op := 46) qLW8 (by decide +kernel) qo46
theorem dL_law_564 : decode cL_law 564 = .ok (.ifCond .eq 7, 3) := qr2 (P := 512) (o := 52) (op := 153) (v := 7) qLW8 (by decide +kernel) (fun h h2 => qo153 h (qs2 h2 (by decide +kernel)))
theorem dL_law_567 : decode cL_law 567 = .ok (.iconst 1, 1) := qr0 (P := 512) (o := 55) (op := 4) qLW8 (by decide +kernel) qo4
theorem dL_law_568 : decode cL_law 568 = .ok (.goto 4, 3) := qr2 (P := 512) (o := 56) (op := 167) (v := 4) qLW8 (by decide +kernel) (fun h h2 => qo167 h (qs2 h2 (by decide +kernel)))
theorem dL_law_571 : decode cL_law 571 = .ok (.iconst 0, 1) := qr0 (P := 512) (o := 59) (op := 3) qLW8 (by decide +kernel) qo3
theorem dL_law_572 : decode cL_law 572 = .ok (.invokevirtual 185, 3) := qr2 (P := 512) (o := 60) (op := 182) (v := 185) qLW8 (by decide +kernel) qo182
theorem dL_law_575 : decode cL_law 575 = .ok (.pop, 1) := qr0 (P := 512) (o := 63) (op := 87) qLW8 (by decide +kernel) qo87
theorem dL_law_576 : decode cL_law 576 = .ok (.aload_n 2, 1) := qr0 (P := 576) (o := 0) (op := 44) qLW9 (by decide +kernel) qo44
theorem dL_law_577 : decode cL_law 577 = .ok (.aload_n 0, 1) := qr0 (P := 576) (o := 1) (op := 42) qLW9 (by decide +kernel) qo42
theorem dL_law_578 : decode cL_law 578 = .ok (.iload 5, 2) := qr1 (P := 576) (o := 2) (op := 21) (v := 5) qLW9 (by decide +kernel) qo21
theorem dL_law_580 : decode cL_law 580 = .ok (.iconst 1, 1) := qr0 (P := 576) (o := 4) (op := 4) qLW9 (by decide +kernel) qo4
theorem dL_law_581 : decode cL_law 581 = .ok (.iadd, 1) := qr0 (P := 576) (o := 5) (op := 96) qLW9 (by decide +kernel) qo96
theorem dL_law_582 : decode cL_law 582 = .ok (.iaload, 1) := qr0 (P := 576) (o := 6) (op := 46) qLW9 (by decide +kernel) qo46
theorem dL_law_583 : decode cL_law 583 = .ok (.ifCond .eq 7, 3) := qr2 (P := 576) (o := 7) (op := 153) (v := 7) qLW9 (by decide +kernel) (fun h h2 => qo153 h (qs2 h2 (by decide +kernel)))
theorem dL_law_586 : decode cL_law 586 = .ok (.iconst 1, 1) := qr0 (P := 576) (o := 10) (op := 4) qLW9 (by decide +kernel) qo4
theorem dL_law_587 : decode cL_law 587 = .ok (.goto 4, 3) := qr2 (P := 576) (o := 11) (op := 167) (v := 4) qLW9 (by decide +kernel) (fun h h2 => qo167 h (qs2 h2 (by decide +kernel)))
theorem dL_law_590 : decode cL_law 590 = .ok (.iconst 0, 1) := qr0 (P := 576) (o := 14) (op := 3) qLW9 (by decide +kernel) qo3
theorem dL_law_591 : decode cL_law 591 = .ok (.invokevirtual 189, 3) := qr2 (P := 576) (o := 15) (op := 182) (v := 189) qLW9 (by decide +kernel) qo182
theorem dL_law_594 : decode cL_law 594 = .ok (.pop, 1) := qr0 (P := 576) (o := 18) (op := 87) qLW9 (by decide +kernel) qo87
theorem dL_law_595 : decode cL_law 595 = .ok (.goto 1346, 3) := qr2 (P := 576) (o := 19) (op := 167) (v := 1346) qLW9 (by decide +kernel) (fun h h2 => qo167 h (qs2 h2 (by decide +kernel)))
theorem dL_law_598 : decode cL_law 598 = .ok (.aload_n 1, 1) := qr0 (P := 576) (o := 22) (op := 43) qLW9 (by decide +kernel) qo43
theorem dL_law_599 : decode cL_law 599 = .ok (.aload_n 0, 1) := qr0 (P := 576) (o := 23) (op := 42) qLW9 (by decide +kernel) qo42
theorem dL_law_600 : decode cL_law 600 = .ok (.iload 5, 2) := qr1 (P := 576) (o := 24) (op := 21) (v := 5) qLW9 (by decide +kernel) qo21
theorem dL_law_602 : decode cL_law 602 = .ok (.iconst 1, 1) := qr0 (P := 576) (o := 26) (op := 4) qLW9 (by decide +kernel) qo4
theorem dL_law_603 : decode cL_law 603 = .ok (.iadd, 1) := qr0 (P := 576) (o := 27) (op := 96) qLW9 (by decide +kernel) qo96
theorem dL_law_604 : decode cL_law 604 = .ok (.iaload, 1) := qr0 (P := 576) (o := 28) (op := 46) qLW9 (by decide +kernel) qo46
theorem dL_law_605 : decode cL_law 605 = .ok (.aload_n 3, 1) := qr0 (P := 576) (o := 29) (op := 45) qLW9 (by decide +kernel) qo45
theorem dL_law_606 : decode cL_law 606 = .ok (.invokestatic 190, 3) := qr2 (P := 576) (o := 30) (op := 184) (v := 190) qLW9 (by decide +kernel) qo184
theorem dL_law_609 : decode cL_law 609 = .ok (.istore 6, 2) := qr1 (P := 576) (o := 33) (op := 54) (v := 6) qLW9 (by decide +kernel) qo54
theorem dL_law_611 : decode cL_law 611 = .ok (.aload_n 2, 1) := qr0 (P := 576) (o := 35) (op := 44) qLW9 (by decide +kernel) qo44
theorem dL_law_612 : decode cL_law 612 = .ok (.aload_n 0, 1) := qr0 (P := 576) (o := 36) (op := 42) qLW9 (by decide +kernel) qo42
theorem dL_law_613 : decode cL_law 613 = .ok (.iload 5, 2) := qr1 (P := 576) (o := 37) (op := 21) (v := 5) qLW9 (by decide +kernel) qo21
theorem dL_law_615 : decode cL_law 615 = .ok (.iconst 1, 1) := qr0 (P := 576) (o := 39) (op := 4) qLW9 (by decide +kernel) qo4
theorem dL_law_616 : decode cL_law 616 = .ok (.iadd, 1) := qr0 (P := 576) (o := 40) (op := 96) qLW9 (by decide +kernel) qo96
theorem dL_law_617 : decode cL_law 617 = .ok (.iaload, 1) := qr0 (P := 576) (o := 41) (op := 46) qLW9 (by decide +kernel) qo46
theorem dL_law_618 : decode cL_law 618 = .ok (.invokevirtual 192, 3) := qr2 (P := 576) (o := 42) (op := 182) (v := 192) qLW9 (by decide +kernel) qo182
theorem dL_law_621 : decode cL_law 621 = .ok (.istore 7, 2) := qr1 (P := 576) (o := 45) (op := 54) (v := 7) qLW9 (by decide +kernel) qo54
theorem dL_law_623 : decode cL_law 623 = .ok (.goto 1318, 3) := qr2 (P := 576) (o := 47) (op := 167) (v := 1318) qLW9 (by decide +kernel) (fun h h2 => qo167 h (qs2 h2 (by decide +kernel)))
theorem dL_law_626 : decode cL_law 626 = .ok (.aload_n 1, 1) := qr0 (P := 576) (o := 50) (op := 43) qLW9 (by decide +kernel) qo43
theorem dL_law_627 : decode cL_law 627 = .ok (.aload_n 0, 1) := qr0 (P := 576) (o := 51) (op := 42) qLW9 (by decide +kernel) qo42
theorem dL_law_628 : decode cL_law 628 = .ok (.iload 5, 2) := qr1 (P := 576) (o := 52) (op := 21) (v := 5) qLW9 (by decide +kernel) qo21
theorem dL_law_630 : decode cL_law 630 = .ok (.iconst 1, 1) := qr0 (P := 576) (o := 54) (op := 4) qLW9 (by decide +kernel) qo4
theorem dL_law_631 : decode cL_law 631 = .ok (.iadd, 1) := qr0 (P := 576) (o := 55) (op := 96) qLW9 (by decide +kernel) qo96
theorem dL_law_632 : decode cL_law 632 = .ok (.iaload, 1) := qr0 (P := 576) (o := 56) (op := 46) qLW9 (by decide +kernel) qo46
theorem dL_law_633 : decode cL_law 633 = .ok (.ifCond .eq 7, 3) := qr2 (P := 576) (o := 57) (op := 153) (v := 7) qLW9 (by decide +kernel) (fun h h2 => qo153 h (qs2 h2 (by decide +kernel)))
theorem dL_law_636 : decode cL_law 636 = .ok (.iconst 1, 1) := qr0 (P := 576) (o := 60) (op := 4) qLW9 (by decide +kernel) qo4
theorem dL_law_637 : decode cL_law 637 = .ok (.goto 4, 3) := qr2 (P := 576) (o := 61) (op := 167) (v := 4) qLW9 (by decide +kernel) (fun h h2 => qo167 h (qs2 h2 (by decide +kernel)))
theorem dL_law_640 : decode cL_law 640 = .ok (.iconst 0, 1) := qr0 (P := 640) (o := 0) (op := 3) qLW10 (by decide +kernel) qo3
theorem dL_law_641 : decode cL_law 641 = .ok (.invokevirtual 193, 3) := qr2 (P := 640) (o := 1) (op := 182) (v := 193) qLW10 (by decide +kernel) qo182
theorem dL_law_644 : decode cL_law 644 = .ok (.pop, 1) := qr0 (P := 640) (o := 4) (op := 87) qLW10 (by decide +kernel) qo87
theorem dL_law_645 : decode cL_law 645 = .ok (.aload_n 2, 1) := qr0 (P := 640) (o := 5) (op := 44) qLW10 (by decide +kernel) qo44
theorem dL_law_646 : decode cL_law 646 = .ok (.aload_n 0, 1) := qr0 (P := 640) (o := 6) (op := 42) qLW10 (by decide +kernel) qo42
theorem dL_law_647 : decode cL_law 647 = .ok (.iload 5, 2) := qr1 (P := 640) (o := 7) (op := 21) (v := 5) qLW10 (by decide +kernel) qo21
theorem dL_law_649 : decode cL_law 649 = .ok (.iconst 1, 1) := qr0 (P := 640) (o := 9) (op := 4) qLW10 (by decide +kernel) qo4
theorem dL_law_650 : decode cL_law 650 = .ok (.iadd, 1) := qr0 (P := 640) (o := 10) (op := 96) qLW10 (by decide +kernel) qo96
theorem dL_law_651 : decode cL_law 651 = .ok (.iaload, 1) := qr0 (P := 640) (o := 11) (op := 46) qLW10 (by decide +kernel) qo46
theorem dL_law_652 : decode cL_law 652 = .ok (.ifCond .eq 7, 3) := qr2 (P := 640) (o := 12) (op := 153) (v := 7) qLW10 (by decide +kernel) (fun h h2 => qo153 h (qs2 h2 (by decide +kernel)))
theorem dL_law_655 : decode cL_law 655 = .ok (.iconst 1, 1) := qr0 (P := 640) (o := 15) (op := 4) qLW10 (by decide +kernel) qo4
theorem dL_law_656 : decode cL_law 656 = .ok (.goto 4, 3) := qr2 (P := 640) (o := 16) (op := 167) (v := 4) qLW10 (by decide +kernel) (fun h h2 => qo167 h (qs2 h2 (by decide +kernel)))
theorem dL_law_659 : decode cL_law 659 = .ok (.iconst 0, 1) := qr0 (P := 640) (o := 19) (op := 3) qLW10 (by decide +kernel) qo3
theorem dL_law_660 : decode cL_law 660 = .ok (.invokevirtual 197, 3) := qr2 (P := 640) (o := 20) (op := 182) (v := 197) qLW10 (by decide +kernel) qo182
theorem dL_law_663 : decode cL_law 663 = .ok (.pop, 1) := qr0 (P := 640) (o := 23) (op := 87) qLW10 (by decide +kernel) qo87
theorem dL_law_664 : decode cL_law 664 = .ok (.goto 1277, 3) := qr2 (P := 640) (o := 24) (op := 167) (v := 1277) qLW10 (by decide +kernel) (fun h h2 => qo167 h (qs2 h2 (by decide +kernel)))
theorem dL_law_667 : decode cL_law 667 = .ok (.aload_n 1, 1) := qr0 (P := 640) (o := 27) (op := 43) qLW10 (by decide +kernel) qo43
theorem dL_law_668 : decode cL_law 668 = .ok (.invokevirtual 198, 3) := qr2 (P := 640) (o := 28) (op := 182) (v := 198) qLW10 (by decide +kernel) qo182
theorem dL_law_671 : decode cL_law 671 = .ok (.pop, 1) := qr0 (P := 640) (o := 31) (op := 87) qLW10 (by decide +kernel) qo87
theorem dL_law_672 : decode cL_law 672 = .ok (.aload_n 2, 1) := qr0 (P := 640) (o := 32) (op := 44) qLW10 (by decide +kernel) qo44
theorem dL_law_673 : decode cL_law 673 = .ok (.invokevirtual 201, 3) := qr2 (P := 640) (o := 33) (op := 182) (v := 201) qLW10 (by decide +kernel) qo182
theorem dL_law_676 : decode cL_law 676 = .ok (.pop, 1) := qr0 (P := 640) (o := 36) (op := 87) qLW10 (by decide +kernel) qo87
theorem dL_law_677 : decode cL_law 677 = .ok (.goto 1264, 3) := qr2 (P := 640) (o := 37) (op := 167) (v := 1264) qLW10 (by decide +kernel) (fun h h2 => qo167 h (qs2 h2 (by decide +kernel)))
theorem dL_law_680 : decode cL_law 680 = .ok (.aload_n 1, 1) := qr0 (P := 640) (o := 40) (op := 43) qLW10 (by decide +kernel) qo43
theorem dL_law_681 : decode cL_law 681 = .ok (.aload_n 3, 1) := qr0 (P := 640) (o := 41) (op := 45) qLW10 (by decide +kernel) qo45
theorem dL_law_682 : decode cL_law 682 = .ok (.invokestatic 202, 3) := qr2 (P := 640) (o := 42) (op := 184) (v := 202) qLW10 (by decide +kernel) qo184
theorem dL_law_685 : decode cL_law 685 = .ok (.istore 6, 2) := qr1 (P := 640) (o := 45) (op := 54) (v := 6) qLW10 (by decide +kernel) qo54
theorem dL_law_687 : decode cL_law 687 = .ok (.aload_n 2, 1) := qr0 (P := 640) (o := 47) (op := 44) qLW10 (by decide +kernel) qo44
theorem dL_law_688 : decode cL_law 688 = .ok (.invokevirtual 205, 3) := qr2 (P := 640) (o := 48) (op := 182) (v := 205) qLW10 (by decide +kernel) qo182
theorem dL_law_691 : decode cL_law 691 = .ok (.istore 7, 2) := qr1 (P := 640) (o := 51) (op := 54) (v := 7) qLW10 (by decide +kernel) qo54
theorem dL_law_693 : decode cL_law 693 = .ok (.goto 1248, 3) := qr2 (P := 640) (o := 53) (op := 167) (v := 1248) qLW10 (by decide +kernel) (fun h h2 => qo167 h (qs2 h2 (by decide +kernel)))
theorem dL_law_696 : decode cL_law 696 = .ok (.aload_n 1, 1) := qr0 (P := 640) (o := 56) (op := 43) qLW10 (by decide +kernel) qo43
theorem dL_law_697 : decode cL_law 697 = .ok (.aload_n 0, 1) := qr0 (P := 640) (o := 57) (op := 42) qLW10 (by decide +kernel) qo42
theorem dL_law_698 : decode cL_law 698 = .ok (.iload 5, 2) := qr1 (P := 640) (o := 58) (op := 21) (v := 5) qLW10 (by decide +kernel) qo21
theorem dL_law_700 : decode cL_law 700 = .ok (.iconst 1, 1) := qr0 (P := 640) (o := 60) (op := 4) qLW10 (by decide +kernel) qo4
theorem dL_law_701 : decode cL_law 701 = .ok (.iadd, 1) := qr0 (P := 640) (o := 61) (op := 96) qLW10 (by decide +kernel) qo96
theorem dL_law_702 : decode cL_law 702 = .ok (.iaload, 1) := qr0 (P := 640) (o := 62) (op := 46) qLW10 (by decide +kernel) qo46
theorem dL_law_703 : decode cL_law 703 = .ok (.aload_n 0, 1) := qr0 (P := 640) (o := 63) (op := 42) qLW10 (by decide +kernel) qo42
theorem dL_law_704 : decode cL_law 704 = .ok (.iload 5, 2) := qr1 (P := 704) (o := 0) (op := 21) (v := 5) qLW11 (by decide +kernel) qo21
theorem dL_law_706 : decode cL_law 706 = .ok (.iconst 2, 1) := qr0 (P := 704) (o := 2) (op := 5) qLW11 (by decide +kernel) qo5
theorem dL_law_707 : decode cL_law 707 = .ok (.iadd, 1) := qr0 (P := 704) (o := 3) (op := 96) qLW11 (by decide +kernel) qo96
theorem dL_law_708 : decode cL_law 708 = .ok (.iaload, 1) := qr0 (P := 704) (o := 4) (op := 46) qLW11 (by decide +kernel) qo46
theorem dL_law_709 : decode cL_law 709 = .ok (.aload_n 0, 1) := qr0 (P := 704) (o := 5) (op := 42) qLW11 (by decide +kernel) qo42
theorem dL_law_710 : decode cL_law 710 = .ok (.iload 5, 2) := qr1 (P := 704) (o := 6) (op := 21) (v := 5) qLW11 (by decide +kernel) qo21
theorem dL_law_712 : decode cL_law 712 = .ok (.iconst 3, 1) := qr0 (P := 704) (o := 8) (op := 6) qLW11 (by decide +kernel) qo6
theorem dL_law_713 : decode cL_law 713 = .ok (.iadd, 1) := qr0 (P := 704) (o := 9) (op := 96) qLW11 (by decide +kernel) qo96
theorem dL_law_714 : decode cL_law 714 = .ok (.iaload, 1) := qr0 (P := 704) (o := 10) (op := 46) qLW11 (by decide +kernel) qo46
theorem dL_law_715 : decode cL_law 715 = .ok (.aload_n 0, 1) := qr0 (P := 704) (o := 11) (op := 42) qLW11 (by decide +kernel) qo42
theorem dL_law_716 : decode cL_law 716 = .ok (.iload 5, 2) := qr1 (P := 704) (o := 12) (op := 21) (v := 5) qLW11 (by decide +kernel) qo21
theorem dL_law_718 : decode cL_law 718 = .ok (.iconst 4, 1) := qr0 (P := 704) (o := 14) (op := 7) qLW11 (by decide +kernel) qo7
theorem dL_law_719 : decode cL_law 719 = .ok (.iadd, 1) := qr0 (P := 704) (o := 15) (op := 96) qLW11 (by decide +kernel) qo96
theorem dL_law_720 : decode cL_law 720 = .ok (.iaload, 1) := qr0 (P := 704) (o := 16) (op := 46) qLW11 (by decide +kernel) qo46
theorem dL_law_721 : decode cL_law 721 = .ok (.i2c, 1) := qr0 (P := 704) (o := 17) (op := 146) qLW11 (by decide +kernel) qo146
theorem dL_law_722 : decode cL_law 722 = .ok (.aload_n 3, 1) := qr0 (P := 704) (o := 18) (op := 45) qLW11 (by decide +kernel) qo45
theorem dL_law_723 : decode cL_law 723 = .ok (.invokestatic 206, 3) := qr2 (P := 704) (o := 19) (op := 184) (v := 206) qLW11 (by decide +kernel) qo184
theorem dL_law_726 : decode cL_law 726 = .ok (.istore 6, 2) := qr1 (P := 704) (o := 22) (op := 54) (v := 6) qLW11 (by decide +kernel) qo54
theorem dL_law_728 : decode cL_law 728 = .ok (.aload_n 2, 1) := qr0 (P := 704) (o := 24) (op := 44) qLW11 (by decide +kernel) qo44
theorem dL_law_729 : decode cL_law 729 = .ok (.aload_n 0, 1) := qr0 (P := 704) (o := 25) (op := 42) qLW11 (by decide +kernel) qo42
theorem dL_law_730 : decode cL_law 730 = .ok (.iload 5, 2) := qr1 (P := 704) (o := 26) (op := 21) (v := 5) qLW11 (by decide +kernel) qo21
theorem dL_law_732 : decode cL_law 732 = .ok (.iconst 1, 1) := qr0 (P := 704) (o := 28) (op := 4) qLW11 (by decide +kernel) qo4
theorem dL_law_733 : decode cL_law 733 = .ok (.iadd, 1) := qr0 (P := 704) (o := 29) (op := 96) qLW11 (by decide +kernel) qo96
theorem dL_law_734 : decode cL_law 734 = .ok (.iaload, 1) := qr0 (P := 704) (o := 30) (op := 46) qLW11 (by decide +kernel) qo46
theorem dL_law_735 : decode cL_law 735 = .ok (.aload_n 0, 1) := qr0 (P := 704) (o := 31) (op := 42) qLW11 (by decide +kernel) qo42
theorem dL_law_736 : decode cL_law 736 = .ok (.iload 5, 2) := qr1 (P := 704) (o := 32) (op := 21) (v := 5) qLW11 (by decide +kernel) qo21
theorem dL_law_738 : decode cL_law 738 = .ok (.iconst 2, 1) := qr0 (P := 704) (o := 34) (op := 5) qLW11 (by decide +kernel) qo5
theorem dL_law_739 : decode cL_law 739 = .ok (.iadd, 1) := qr0 (P := 704) (o := 35) (op := 96) qLW11 (by decide +kernel) qo96
theorem dL_law_740 : decode cL_law 740 = .ok (.iaload, 1) := qr0 (P := 704) (o := 36) (op := 46) qLW11 (by decide +kernel) qo46
theorem dL_law_741 : decode cL_law 741 = .ok (.aload_n 0, 1) := qr0 (P := 704) (o := 37) (op := 42) qLW11 (by decide +kernel) qo42
theorem dL_law_742 : decode cL_law 742 = .ok (.iload 5, 2) := qr1 (P := 704) (o := 38) (op := 21) (v := 5) qLW11 (by decide +kernel) qo21
theorem dL_law_744 : decode cL_law 744 = .ok (.iconst 3, 1) := qr0 (P := 704) (o := 40) (op := 6) qLW11 (by decide +kernel) qo6
theorem dL_law_745 : decode cL_law 745 = .ok (.iadd, 1) := qr0 (P := 704) (o := 41) (op := 96) qLW11 (by decide +kernel) qo96
theorem dL_law_746 : decode cL_law 746 = .ok (.iaload, 1) := qr0 (P := 704) (o := 42) (op := 46) qLW11 (by decide +kernel) qo46
theorem dL_law_747 : decode cL_law 747 = .ok (.aload_n 0, 1) := qr0 (P := 704) (o := 43) (op := 42) qLW11 (by decide +kernel) qo42
theorem dL_law_748 : decode cL_law 748 = .ok (.iload 5, 2) := qr1 (P := 704) (o := 44) (op := 21) (v := 5) qLW11 (by decide +kernel) qo21
theorem dL_law_750 : decode cL_law 750 = .ok (.iconst 4, 1) := qr0 (P := 704) (o := 46) (op := 7) qLW11 (by decide +kernel) qo7
theorem dL_law_751 : decode cL_law 751 = .ok (.iadd, 1) := qr0 (P := 704) (o := 47) (op := 96) qLW11 (by decide +kernel) qo96
theorem dL_law_752 : decode cL_law 752 = .ok (.iaload, 1) := qr0 (P := 704) (o := 48) (op := 46) qLW11 (by decide +kernel) qo46
theorem dL_law_753 : decode cL_law 753 = .ok (.i2c, 1) := qr0 (P := 704) (o := 49) (op := 146) qLW11 (by decide +kernel) qo146
theorem dL_law_754 : decode cL_law 754 = .ok (.invokevirtual 209, 3) := qr2 (P := 704) (o := 50) (op := 182) (v := 209) qLW11 (by decide +kernel) qo182
theorem dL_law_757 : decode cL_law 757 = .ok (.istore 7, 2) := qr1 (P := 704) (o := 53) (op := 54) (v := 7) qLW11 (by decide +kernel) qo54
theorem dL_law_759 : decode cL_law 759 = .ok (.goto 1182, 3) := qr2 (P := 704) (o := 55) (op := 167) (v := 1182) qLW11 (by decide +kernel) (fun h h2 => qo167 h (qs2 h2 (by decide +kernel)))
theorem dL_law_762 : decode cL_law 762 = .ok (.aload_n 1, 1) := qr0 (P := 704) (o := 58) (op := 43) qLW11 (by decide +kernel) qo43
theorem dL_law_763 : decode cL_law 763 = .ok (.aload_n 0, 1) := qr0 (P := 704) (o := 59) (op := 42) qLW11 (by decide +kernel) qo42
theorem dL_law_764 : decode cL_law 764 = .ok (.iload 5, 2) := qr1 (P := 704) (o := 60) (op := 21) (v := 5) qLW11 (by decide +kernel) qo21
theorem dL_law_766 : decode cL_law 766 = .ok (.iconst 1, 1) := qr0 (P := 704) (o := 62) (op := 4) qLW11 (by decide +kernel) qo4
theorem dL_law_767 : decode cL_law 767 = .ok (.iadd, 1) := qr0 (P := 704) (o := 63) (op := 96) qLW11 (by decide +kernel) qo96
theorem dL_law_768 : decode cL_law 768 = .ok (.iaload, 1) := qr0 (P := 768) (o := 0) (op := 46) qLW12 (by decide +kernel) qo46
theorem dL_law_769 : decode cL_law 769 = .ok (.aload_n 0, 1) := qr0 (P := 768) (o := 1) (op := 42) qLW12 (by decide +kernel) qo42
theorem dL_law_770 : decode cL_law 770 = .ok (.iload 5, 2) := qr1 (P := 768) (o := 2) (op := 21) (v := 5) qLW12 (by decide +kernel) qo21
theorem dL_law_772 : decode cL_law 772 = .ok (.iconst 2, 1) := qr0 (P := 768) (o := 4) (op := 5) qLW12 (by decide +kernel) qo5
theorem dL_law_773 : decode cL_law 773 = .ok (.iadd, 1) := qr0 (P := 768) (o := 5) (op := 96) qLW12 (by decide +kernel) qo96
theorem dL_law_774 : decode cL_law 774 = .ok (.iaload, 1) := qr0 (P := 768) (o := 6) (op := 46) qLW12 (by decide +kernel) qo46
theorem dL_law_775 : decode cL_law 775 = .ok (.aload_n 0, 1) := qr0 (P := 768) (o := 7) (op := 42) qLW12 (by decide +kernel) qo42
theorem dL_law_776 : decode cL_law 776 = .ok (.iload 5, 2) := qr1 (P := 768) (o := 8) (op := 21) (v := 5) qLW12 (by decide +kernel) qo21
theorem dL_law_778 : decode cL_law 778 = .ok (.iconst 3, 1) := qr0 (P := 768) (o := 10) (op := 6) qLW12 (by decide +kernel) qo6
theorem dL_law_779 : decode cL_law 779 = .ok (.iadd, 1) := qr0 (P := 768) (o := 11) (op := 96) qLW12 (by decide +kernel) qo96
theorem dL_law_780 : decode cL_law 780 = .ok (.iaload, 1) := qr0 (P := 768) (o := 12) (op := 46) qLW12 (by decide +kernel) qo46
theorem dL_law_781 : decode cL_law 781 = .ok (.aload_n 3, 1) := qr0 (P := 768) (o := 13) (op := 45) qLW12 (by decide +kernel) qo45
theorem dL_law_782 : decode cL_law 782 = .ok (.invokestatic 210, 3) := qr2 (P := 768) (o := 14) (op := 184) (v := 210) qLW12 (by decide +kernel) qo184
theorem dL_law_785 : decode cL_law 785 = .ok (.istore 6, 2) := qr1 (P := 768) (o := 17) (op := 54) (v := 6) qLW12 (by decide +kernel) qo54
theorem dL_law_787 : decode cL_law 787 = .ok (.aload_n 2, 1) := qr0 (P := 768) (o := 19) (op := 44) qLW12 (by decide +kernel) qo44
theorem dL_law_788 : decode cL_law 788 = .ok (.aload_n 0, 1) := qr0 (P := 768) (o := 20) (op := 42) qLW12 (by decide +kernel) qo42
theorem dL_law_789 : decode cL_law 789 = .ok (.iload 5, 2) := qr1 (P := 768) (o := 21) (op := 21) (v := 5) qLW12 (by decide +kernel) qo21
theorem dL_law_791 : decode cL_law 791 = .ok (.iconst 1, 1) := qr0 (P := 768) (o := 23) (op := 4) qLW12 (by decide +kernel) qo4
theorem dL_law_792 : decode cL_law 792 = .ok (.iadd, 1) := qr0 (P := 768) (o := 24) (op := 96) qLW12 (by decide +kernel) qo96
theorem dL_law_793 : decode cL_law 793 = .ok (.iaload, 1) := qr0 (P := 768) (o := 25) (op := 46) qLW12 (by decide +kernel) qo46
theorem dL_law_794 : decode cL_law 794 = .ok (.aload_n 0, 1) := qr0 (P := 768) (o := 26) (op := 42) qLW12 (by decide +kernel) qo42
theorem dL_law_795 : decode cL_law 795 = .ok (.iload 5, 2) := qr1 (P := 768) (o := 27) (op := 21) (v := 5) qLW12 (by decide +kernel) qo21
theorem dL_law_797 : decode cL_law 797 = .ok (.iconst 2, 1) := qr0 (P := 768) (o := 29) (op := 5) qLW12 (by decide +kernel) qo5
theorem dL_law_798 : decode cL_law 798 = .ok (.iadd, 1) := qr0 (P := 768) (o := 30) (op := 96) qLW12 (by decide +kernel) qo96
theorem dL_law_799 : decode cL_law 799 = .ok (.iaload, 1) := qr0 (P := 768) (o := 31) (op := 46) qLW12 (by decide +kernel) qo46
theorem dL_law_800 : decode cL_law 800 = .ok (.aload_n 0, 1) := qr0 (P := 768) (o := 32) (op := 42) qLW12 (by decide +kernel) qo42
theorem dL_law_801 : decode cL_law 801 = .ok (.iload 5, 2) := qr1 (P := 768) (o := 33) (op := 21) (v := 5) qLW12 (by decide +kernel) qo21
theorem dL_law_803 : decode cL_law 803 = .ok (.iconst 3, 1) := qr0 (P := 768) (o := 35) (op := 6) qLW12 (by decide +kernel) qo6
theorem dL_law_804 : decode cL_law 804 = .ok (.iadd, 1) := qr0 (P := 768) (o := 36) (op := 96) qLW12 (by decide +kernel) qo96
theorem dL_law_805 : decode cL_law 805 = .ok (.iaload, 1) := qr0 (P := 768) (o := 37) (op := 46) qLW12 (by decide +kernel) qo46
theorem dL_law_806 : decode cL_law 806 = .ok (.invokevirtual 213, 3) := qr2 (P := 768) (o := 38) (op := 182) (v := 213) qLW12 (by decide +kernel) qo182
theorem dL_law_809 : decode cL_law 809 = .ok (.istore 7, 2) := qr1 (P := 768) (o := 41) (op := 54) (v := 7) qLW12 (by decide +kernel) qo54
theorem dL_law_811 : decode cL_law 811 = .ok (.goto 1130, 3) := qr2 (P := 768) (o := 43) (op := 167) (v := 1130) qLW12 (by decide +kernel) (fun h h2 => qo167 h (qs2 h2 (by decide +kernel)))
theorem dL_law_814 : decode cL_law 814 = .ok (.aload_n 1, 1) := qr0 (P := 768) (o := 46) (op := 43) qLW12 (by decide +kernel) qo43
theorem dL_law_815 : decode cL_law 815 = .ok (.aload_n 0, 1) := qr0 (P := 768) (o := 47) (op := 42) qLW12 (by decide +kernel) qo42
theorem dL_law_816 : decode cL_law 816 = .ok (.iload 5, 2) := qr1 (P := 768) (o := 48) (op := 21) (v := 5) qLW12 (by decide +kernel) qo21
theorem dL_law_818 : decode cL_law 818 = .ok (.iconst 1, 1) := qr0 (P := 768) (o := 50) (op := 4) qLW12 (by decide +kernel) qo4
theorem dL_law_819 : decode cL_law 819 = .ok (.iadd, 1) := qr0 (P := 768) (o := 51) (op := 96) qLW12 (by decide +kernel) qo96
theorem dL_law_820 : decode cL_law 820 = .ok (.iaload, 1) := qr0 (P := 768) (o := 52) (op := 46) qLW12 (by decide +kernel) qo46
theorem dL_law_821 : decode cL_law 821 = .ok (.aload_n 0, 1) := qr0 (P := 768) (o := 53) (op := 42) qLW12 (by decide +kernel) qo42
theorem dL_law_822 : decode cL_law 822 = .ok (.iload 5, 2) := qr1 (P := 768) (o := 54) (op := 21) (v := 5) qLW12 (by decide +kernel) qo21
theorem dL_law_824 : decode cL_law 824 = .ok (.iconst 2, 1) := qr0 (P := 768) (o := 56) (op := 5) qLW12 (by decide +kernel) qo5
theorem dL_law_825 : decode cL_law 825 = .ok (.iadd, 1) := qr0 (P := 768) (o := 57) (op := 96) qLW12 (by decide +kernel) qo96
theorem dL_law_826 : decode cL_law 826 = .ok (.iaload, 1) := qr0 (P := 768) (o := 58) (op := 46) qLW12 (by decide +kernel) qo46
theorem dL_law_827 : decode cL_law 827 = .ok (.aload_n 0, 1) := qr0 (P := 768) (o := 59) (op := 42) qLW12 (by decide +kernel) qo42
theorem dL_law_828 : decode cL_law 828 = .ok (.iload 5, 2) := qr1 (P := 768) (o := 60) (op := 21) (v := 5) qLW12 (by decide +kernel) qo21
theorem dL_law_830 : decode cL_law 830 = .ok (.iconst 3, 1) := qr0 (P := 768) (o := 62) (op := 6) qLW12 (by decide +kernel) qo6
theorem dL_law_831 : decode cL_law 831 = .ok (.iadd, 1) := qr0 (P := 768) (o := 63) (op := 96) qLW12 (by decide +kernel) qo96
theorem dL_law_832 : decode cL_law 832 = .ok (.iaload, 1) := qr0 (P := 832) (o := 0) (op := 46) qLW13 (by decide +kernel) qo46
theorem dL_law_833 : decode cL_law 833 = .ok (.aload_n 3, 1) := qr0 (P := 832) (o := 1) (op := 45) qLW13 (by decide +kernel) qo45
theorem dL_law_834 : decode cL_law 834 = .ok (.invokestatic 214, 3) := qr2 (P := 832) (o := 2) (op := 184) (v := 214) qLW13 (by decide +kernel) qo184
theorem dL_law_837 : decode cL_law 837 = .ok (.istore 6, 2) := qr1 (P := 832) (o := 5) (op := 54) (v := 6) qLW13 (by decide +kernel) qo54
theorem dL_law_839 : decode cL_law 839 = .ok (.aload_n 2, 1) := qr0 (P := 832) (o := 7) (op := 44) qLW13 (by decide +kernel) qo44
theorem dL_law_840 : decode cL_law 840 = .ok (.aload_n 0, 1) := qr0 (P := 832) (o := 8) (op := 42) qLW13 (by decide +kernel) qo42
theorem dL_law_841 : decode cL_law 841 = .ok (.iload 5, 2) := qr1 (P := 832) (o := 9) (op := 21) (v := 5) qLW13 (by decide +kernel) qo21
theorem dL_law_843 : decode cL_law 843 = .ok (.iconst 1, 1) := qr0 (P := 832) (o := 11) (op := 4) qLW13 (by decide +kernel) qo4
theorem dL_law_844 : decode cL_law 844 = .ok (.iadd, 1) := qr0 (P := 832) (o := 12) (op := 96) qLW13 (by decide +kernel) qo96
theorem dL_law_845 : decode cL_law 845 = .ok (.iaload, 1) := qr0 (P := 832) (o := 13) (op := 46) qLW13 (by decide +kernel) qo46
theorem dL_law_846 : decode cL_law 846 = .ok (.aload_n 0, 1) := qr0 (P := 832) (o := 14) (op := 42) qLW13 (by decide +kernel) qo42
theorem dL_law_847 : decode cL_law 847 = .ok (.iload 5, 2) := qr1 (P := 832) (o := 15) (op := 21) (v := 5) qLW13 (by decide +kernel) qo21
theorem dL_law_849 : decode cL_law 849 = .ok (.iconst 2, 1) := qr0 (P := 832) (o := 17) (op := 5) qLW13 (by decide +kernel) qo5
theorem dL_law_850 : decode cL_law 850 = .ok (.iadd, 1) := qr0 (P := 832) (o := 18) (op := 96) qLW13 (by decide +kernel) qo96
theorem dL_law_851 : decode cL_law 851 = .ok (.iaload, 1) := qr0 (P := 832) (o := 19) (op := 46) qLW13 (by decide +kernel) qo46
theorem dL_law_852 : decode cL_law 852 = .ok (.aload_n 0, 1) := qr0 (P := 832) (o := 20) (op := 42) qLW13 (by decide +kernel) qo42
theorem dL_law_853 : decode cL_law 853 = .ok (.iload 5, 2) := qr1 (P := 832) (o := 21) (op := 21) (v := 5) qLW13 (by decide +kernel) qo21
theorem dL_law_855 : decode cL_law 855 = .ok (.iconst 3, 1) := qr0 (P := 832) (o := 23) (op := 6) qLW13 (by decide +kernel) qo6
theorem dL_law_856 : decode cL_law 856 = .ok (.iadd, 1) := qr0 (P := 832) (o := 24) (op := 96) qLW13 (by decide +kernel) qo96
theorem dL_law_857 : decode cL_law 857 = .ok (.iaload, 1) := qr0 (P := 832) (o := 25) (op := 46) qLW13 (by decide +kernel) qo46
theorem dL_law_858 : decode cL_law 858 = .ok (.invokevirtual 216, 3) := qr2 (P := 832) (o := 26) (op := 182) (v := 216) qLW13 (by decide +kernel) qo182
theorem dL_law_861 : decode cL_law 861 = .ok (.istore 7, 2) := qr1 (P := 832) (o := 29) (op := 54) (v := 7) qLW13 (by decide +kernel) qo54
theorem dL_law_863 : decode cL_law 863 = .ok (.goto 1078, 3) := qr2 (P := 832) (o := 31) (op := 167) (v := 1078) qLW13 (by decide +kernel) (fun h h2 => qo167 h (qs2 h2 (by decide +kernel)))
theorem dL_law_866 : decode cL_law 866 = .ok (.aload_n 1, 1) := qr0 (P := 832) (o := 34) (op := 43) qLW13 (by decide +kernel) qo43
theorem dL_law_867 : decode cL_law 867 = .ok (.aload_n 0, 1) := qr0 (P := 832) (o := 35) (op := 42) qLW13 (by decide +kernel) qo42
theorem dL_law_868 : decode cL_law 868 = .ok (.iload 5, 2) := qr1 (P := 832) (o := 36) (op := 21) (v := 5) qLW13 (by decide +kernel) qo21
theorem dL_law_870 : decode cL_law 870 = .ok (.iconst 1, 1) := qr0 (P := 832) (o := 38) (op := 4) qLW13 (by decide +kernel) qo4
theorem dL_law_871 : decode cL_law 871 = .ok (.iadd, 1) := qr0 (P := 832) (o := 39) (op := 96) qLW13 (by decide +kernel) qo96
theorem dL_law_872 : decode cL_law 872 = .ok (.iaload, 1) := qr0 (P := 832) (o := 40) (op := 46) qLW13 (by decide +kernel) qo46
theorem dL_law_873 : decode cL_law 873 = .ok (.aload_n 0, 1) := qr0 (P := 832) (o := 41) (op := 42) qLW13 (by decide +kernel) qo42
theorem dL_law_874 : decode cL_law 874 = .ok (.iload 5, 2) := qr1 (P := 832) (o := 42) (op := 21) (v := 5) qLW13 (by decide +kernel) qo21
theorem dL_law_876 : decode cL_law 876 = .ok (.iconst 2, 1) := qr0 (P := 832) (o := 44) (op := 5) qLW13 (by decide +kernel) qo5
theorem dL_law_877 : decode cL_law 877 = .ok (.iadd, 1) := qr0 (P := 832) (o := 45) (op := 96) qLW13 (by decide +kernel) qo96
theorem dL_law_878 : decode cL_law 878 = .ok (.iaload, 1) := qr0 (P := 832) (o := 46) (op := 46) qLW13 (by decide +kernel) qo46
theorem dL_law_879 : decode cL_law 879 = .ok (.aload_n 0, 1) := qr0 (P := 832) (o := 47) (op := 42) qLW13 (by decide +kernel) qo42
theorem dL_law_880 : decode cL_law 880 = .ok (.iload 5, 2) := qr1 (P := 832) (o := 48) (op := 21) (v := 5) qLW13 (by decide +kernel) qo21
theorem dL_law_882 : decode cL_law 882 = .ok (.iconst 3, 1) := qr0 (P := 832) (o := 50) (op := 6) qLW13 (by decide +kernel) qo6
theorem dL_law_883 : decode cL_law 883 = .ok (.iadd, 1) := qr0 (P := 832) (o := 51) (op := 96) qLW13 (by decide +kernel) qo96
theorem dL_law_884 : decode cL_law 884 = .ok (.iaload, 1) := qr0 (P := 832) (o := 52) (op := 46) qLW13 (by decide +kernel) qo46
theorem dL_law_885 : decode cL_law 885 = .ok (.aload_n 3, 1) := qr0 (P := 832) (o := 53) (op := 45) qLW13 (by decide +kernel) qo45
theorem dL_law_886 : decode cL_law 886 = .ok (.invokestatic 217, 3) := qr2 (P := 832) (o := 54) (op := 184) (v := 217) qLW13 (by decide +kernel) qo184
theorem dL_law_889 : decode cL_law 889 = .ok (.istore 6, 2) := qr1 (P := 832) (o := 57) (op := 54) (v := 6) qLW13 (by decide +kernel) qo54
theorem dL_law_891 : decode cL_law 891 = .ok (.aload_n 2, 1) := qr0 (P := 832) (o := 59) (op := 44) qLW13 (by decide +kernel) qo44
theorem dL_law_892 : decode cL_law 892 = .ok (.aload_n 0, 1) := qr0 (P := 832) (o := 60) (op := 42) qLW13 (by decide +kernel) qo42
theorem dL_law_893 : decode cL_law 893 = .ok (.iload 5, 2) := qr1 (P := 832) (o := 61) (op := 21) (v := 5) qLW13 (by decide +kernel) qo21
theorem dL_law_895 : decode cL_law 895 = .ok (.iconst 1, 1) := qr0 (P := 832) (o := 63) (op := 4) qLW13 (by decide +kernel) qo4
theorem dL_law_896 : decode cL_law 896 = .ok (.iadd, 1) := qr0 (P := 896) (o := 0) (op := 96) qLW14 (by decide +kernel) qo96
theorem dL_law_897 : decode cL_law 897 = .ok (.iaload, 1) := qr0 (P := 896) (o := 1) (op := 46) qLW14 (by decide +kernel) qo46
theorem dL_law_898 : decode cL_law 898 = .ok (.aload_n 0, 1) := qr0 (P := 896) (o := 2) (op := 42) qLW14 (by decide +kernel) qo42
theorem dL_law_899 : decode cL_law 899 = .ok (.iload 5, 2) := qr1 (P := 896) (o := 3) (op := 21) (v := 5) qLW14 (by decide +kernel) qo21
theorem dL_law_901 : decode cL_law 901 = .ok (.iconst 2, 1) := qr0 (P := 896) (o := 5) (op := 5) qLW14 (by decide +kernel) qo5
theorem dL_law_902 : decode cL_law 902 = .ok (.iadd, 1) := qr0 (P := 896) (o := 6) (op := 96) qLW14 (by decide +kernel) qo96
theorem dL_law_903 : decode cL_law 903 = .ok (.iaload, 1) := qr0 (P := 896) (o := 7) (op := 46) qLW14 (by decide +kernel) qo46
theorem dL_law_904 : decode cL_law 904 = .ok (.aload_n 0, 1) := qr0 (P := 896) (o := 8) (op := 42) qLW14 (by decide +kernel) qo42
theorem dL_law_905 : decode cL_law 905 = .ok (.iload 5, 2) := qr1 (P := 896) (o := 9) (op := 21) (v := 5) qLW14 (by decide +kernel) qo21
theorem dL_law_907 : decode cL_law 907 = .ok (.iconst 3, 1) := qr0 (P := 896) (o := 11) (op := 6) qLW14 (by decide +kernel) qo6
theorem dL_law_908 : decode cL_law 908 = .ok (.iadd, 1) := qr0 (P := 896) (o := 12) (op := 96) qLW14 (by decide +kernel) qo96
theorem dL_law_909 : decode cL_law 909 = .ok (.iaload, 1) := qr0 (P := 896) (o := 13) (op := 46) qLW14 (by decide +kernel) qo46
theorem dL_law_910 : decode cL_law 910 = .ok (.invokevirtual 219, 3) := qr2 (P := 896) (o := 14) (op := 182) (v := 219) qLW14 (by decide +kernel) qo182
theorem dL_law_913 : decode cL_law 913 = .ok (.istore 7, 2) := qr1 (P := 896) (o := 17) (op := 54) (v := 7) qLW14 (by decide +kernel) qo54
theorem dL_law_915 : decode cL_law 915 = .ok (.goto 1026, 3) := qr2 (P := 896) (o := 19) (op := 167) (v := 1026) qLW14 (by decide +kernel) (fun h h2 => qo167 h (qs2 h2 (by decide +kernel)))
theorem dL_law_918 : decode cL_law 918 = .ok (.aload_n 1, 1) := qr0 (P := 896) (o := 22) (op := 43) qLW14 (by decide +kernel) qo43
theorem dL_law_919 : decode cL_law 919 = .ok (.aload_n 0, 1) := qr0 (P := 896) (o := 23) (op := 42) qLW14 (by decide +kernel) qo42
theorem dL_law_920 : decode cL_law 920 = .ok (.iload 5, 2) := qr1 (P := 896) (o := 24) (op := 21) (v := 5) qLW14 (by decide +kernel) qo21
theorem dL_law_922 : decode cL_law 922 = .ok (.iconst 1, 1) := qr0 (P := 896) (o := 26) (op := 4) qLW14 (by decide +kernel) qo4
theorem dL_law_923 : decode cL_law 923 = .ok (.iadd, 1) := qr0 (P := 896) (o := 27) (op := 96) qLW14 (by decide +kernel) qo96
theorem dL_law_924 : decode cL_law 924 = .ok (.iaload, 1) := qr0 (P := 896) (o := 28) (op := 46) qLW14 (by decide +kernel) qo46
theorem dL_law_925 : decode cL_law 925 = .ok (.aload_n 0, 1) := qr0 (P := 896) (o := 29) (op := 42) qLW14 (by decide +kernel) qo42

theorem dL_law_926 : decode cL_law 926 = .ok (.iload 5, 2) := qr1 (P := 896) (o := 30) (op := 21) (v := 5) qLW14 (by decide +kernel) qo21
theorem dL_law_928 : decode cL_law 928 = .ok (.iconst 2, 1) := qr0 (P := 896) (o := 32) (op := 5) qLW14 (by decide +kernel) qo5
theorem dL_law_929 : decode cL_law 929 = .ok (.iadd, 1) := qr0 (P := 896) (o := 33) (op := 96) qLW14 (by decide +kernel) qo96
theorem dL_law_930 : decode cL_law 930 = .ok (.iaload, 1) := qr0 (P := 896) (o := 34) (op := 46) qLW14 (by decide +kernel) qo46
theorem dL_law_931 : decode cL_law 931 = .ok (.aload_n 0, 1) := qr0 (P := 896) (o := 35) (op := 42) qLW14 (by decide +kernel) qo42
theorem dL_law_932 : decode cL_law 932 = .ok (.iload 5, 2) := qr1 (P := 896) (o := 36) (op := 21) (v := 5) qLW14 (by decide +kernel) qo21
theorem dL_law_934 : decode cL_law 934 = .ok (.iconst 3, 1) := qr0 (P := 896) (o := 38) (op := 6) qLW14 (by decide +kernel) qo6
theorem dL_law_935 : decode cL_law 935 = .ok (.iadd, 1) := qr0 (P := 896) (o := 39) (op := 96) qLW14 (by decide +kernel) qo96
theorem dL_law_936 : decode cL_law 936 = .ok (.iaload, 1) := qr0 (P := 896) (o := 40) (op := 46) qLW14 (by decide +kernel) qo46
theorem dL_law_937 : decode cL_law 937 = .ok (.aload_n 3, 1) := qr0 (P := 896) (o := 41) (op := 45) qLW14 (by decide +kernel) qo45
theorem dL_law_938 : decode cL_law 938 = .ok (.invokestatic 220, 3) := qr2 (P := 896) (o := 42) (op := 184) (v := 220) qLW14 (by decide +kernel) qo184
theorem dL_law_941 : decode cL_law 941 = .ok (.istore 6, 2) := qr1 (P := 896) (o := 45) (op := 54) (v := 6) qLW14 (by decide +kernel) qo54
theorem dL_law_943 : decode cL_law 943 = .ok (.aload_n 2, 1) := qr0 (P := 896) (o := 47) (op := 44) qLW14 (by decide +kernel) qo44
theorem dL_law_944 : decode cL_law 944 = .ok (.aload_n 0, 1) := qr0 (P := 896) (o := 48) (op := 42) qLW14 (by decide +kernel) qo42
theorem dL_law_945 : decode cL_law 945 = .ok (.iload 5, 2) := qr1 (P := 896) (o := 49) (op := 21) (v := 5) qLW14 (by decide +kernel) qo21
theorem dL_law_947 : decode cL_law 947 = .ok (.iconst 1, 1) := qr0 (P := 896) (o := 51) (op := 4) qLW14 (by decide +kernel) qo4
theorem dL_law_948 : decode cL_law 948 = .ok (.iadd, 1) := qr0 (P := 896) (o := 52) (op := 96) qLW14 (by decide +kernel) qo96
theorem dL_law_949 : decode cL_law 949 = .ok (.iaload, 1) := qr0 (P := 896) (o := 53) (op := 46) qLW14 (by decide +kernel) qo46
theorem dL_law_950 : decode cL_law 950 = .ok (.aload_n 0, 1) := qr0 (P := 896) (o := 54) (op := 42) qLW14 (by decide +kernel) qo42
theorem dL_law_951 : decode cL_law 951 = .ok (.iload 5, 2) := qr1 (P := 896) (o := 55) (op := 21) (v := 5) qLW14 (by decide +kernel) qo21
theorem dL_law_953 : decode cL_law 953 = .ok (.iconst 2, 1) := qr0 (P := 896) (o := 57) (op := 5) qLW14 (by decide +kernel) qo5
theorem dL_law_954 : decode cL_law 954 = .ok (.iadd, 1) := qr0 (P := 896) (o := 58) (op := 96) qLW14 (by decide +kernel) qo96
theorem dL_law_955 : decode cL_law 955 = .ok (.iaload, 1) := qr0 (P := 896) (o := 59) (op := 46) qLW14 (by decide +kernel) qo46
theorem dL_law_956 : decode cL_law 956 = .ok (.aload_n 0, 1) := qr0 (P := 896) (o := 60) (op := 42) qLW14 (by decide +kernel) qo42
theorem dL_law_957 : decode cL_law 957 = .ok (.iload 5, 2) := qr1 (P := 896) (o := 61) (op := 21) (v := 5) qLW14 (by decide +kernel) qo21
theorem dL_law_959 : decode cL_law 959 = .ok (.iconst 3, 1) := qr0 (P := 896) (o := 63) (op := 6) qLW14 (by decide +kernel) qo6
theorem dL_law_960 : decode cL_law 960 = .ok (.iadd, 1) := qr0 (P := 960) (o := 0) (op := 96) qLW15 (by decide +kernel) qo96
theorem dL_law_961 : decode cL_law 961 = .ok (.iaload, 1) := qr0 (P := 960) (o := 1) (op := 46) qLW15 (by decide +kernel) qo46
theorem dL_law_962 : decode cL_law 962 = .ok (.invokevirtual 222, 3) := qr2 (P := 960) (o := 2) (op := 182) (v := 222) qLW15 (by decide +kernel) qo182
theorem dL_law_965 : decode cL_law 965 = .ok (.istore 7, 2) := qr1 (P := 960) (o := 5) (op := 54) (v := 7) qLW15 (by decide +kernel) qo54
theorem dL_law_967 : decode cL_law 967 = .ok (.goto 974, 3) := qr2 (P := 960) (o := 7) (op := 167) (v := 974) qLW15 (by decide +kernel) (fun h h2 => qo167 h (qs2 h2 (by decide +kernel)))
theorem dL_law_970 : decode cL_law 970 = .ok (.aload_n 1, 1) := qr0 (P := 960) (o := 10) (op := 43) qLW15 (by decide +kernel) qo43
theorem dL_law_971 : decode cL_law 971 = .ok (.aload_n 0, 1) := qr0 (P := 960) (o := 11) (op := 42) qLW15 (by decide +kernel) qo42
theorem dL_law_972 : decode cL_law 972 = .ok (.iload 5, 2) := qr1 (P := 960) (o := 12) (op := 21) (v := 5) qLW15 (by decide +kernel) qo21
theorem dL_law_974 : decode cL_law 974 = .ok (.iconst 1, 1) := qr0 (P := 960) (o := 14) (op := 4) qLW15 (by decide +kernel) qo4
theorem dL_law_975 : decode cL_law 975 = .ok (.iadd, 1) := qr0 (P := 960) (o := 15) (op := 96) qLW15 (by decide +kernel) qo96
theorem dL_law_976 : decode cL_law 976 = .ok (.iaload, 1) := qr0 (P := 960) (o := 16) (op := 46) qLW15 (by decide +kernel) qo46
theorem dL_law_977 : decode cL_law 977 = .ok (.aload_n 0, 1) := qr0 (P := 960) (o := 17) (op := 42) qLW15 (by decide +kernel) qo42
theorem dL_law_978 : decode cL_law 978 = .ok (.iload 5, 2) := qr1 (P := 960) (o := 18) (op := 21) (v := 5) qLW15 (by decide +kernel) qo21
theorem dL_law_980 : decode cL_law 980 = .ok (.iconst 2, 1) := qr0 (P := 960) (o := 20) (op := 5) qLW15 (by decide +kernel) qo5
theorem dL_law_981 : decode cL_law 981 = .ok (.iadd, 1) := qr0 (P := 960) (o := 21) (op := 96) qLW15 (by decide +kernel) qo96
theorem dL_law_982 : decode cL_law 982 = .ok (.iaload, 1) := qr0 (P := 960) (o := 22) (op := 46) qLW15 (by decide +kernel) qo46
theorem dL_law_983 : decode cL_law 983 = .ok (.aload_n 0, 1) := qr0 (P := 960) (o := 23) (op := 42) qLW15 (by decide +kernel) qo42
theorem dL_law_984 : decode cL_law 984 = .ok (.iload 5, 2) := qr1 (P := 960) (o := 24) (op := 21) (v := 5) qLW15 (by decide +kernel) qo21
theorem dL_law_986 : decode cL_law 986 = .ok (.iconst 3, 1) := qr0 (P := 960) (o := 26) (op := 6) qLW15 (by decide +kernel) qo6
theorem dL_law_987 : decode cL_law 987 = .ok (.iadd, 1) := qr0 (P := 960) (o := 27) (op := 96) qLW15 (by decide +kernel) qo96
theorem dL_law_988 : decode cL_law 988 = .ok (.iaload, 1) := qr0 (P := 960) (o := 28) (op := 46) qLW15 (by decide +kernel) qo46
theorem dL_law_989 : decode cL_law 989 = .ok (.aload_n 3, 1) := qr0 (P := 960) (o := 29) (op := 45) qLW15 (by decide +kernel) qo45
theorem dL_law_990 : decode cL_law 990 = .ok (.invokestatic 223, 3) := qr2 (P := 960) (o := 30) (op := 184) (v := 223) qLW15 (by decide +kernel) qo184
theorem dL_law_993 : decode cL_law 993 = .ok (.istore 6, 2) := qr1 (P := 960) (o := 33) (op := 54) (v := 6) qLW15 (by decide +kernel) qo54
theorem dL_law_995 : decode cL_law 995 = .ok (.aload_n 2, 1) := qr0 (P := 960) (o := 35) (op := 44) qLW15 (by decide +kernel) qo44
theorem dL_law_996 : decode cL_law 996 = .ok (.aload_n 0, 1) := qr0 (P := 960) (o := 36) (op := 42) qLW15 (by decide +kernel) qo42
theorem dL_law_997 : decode cL_law 997 = .ok (.iload 5, 2) := qr1 (P := 960) (o := 37) (op := 21) (v := 5) qLW15 (by decide +kernel) qo21
theorem dL_law_999 : decode cL_law 999 = .ok (.iconst 1, 1) := qr0 (P := 960) (o := 39) (op := 4) qLW15 (by decide +kernel) qo4
theorem dL_law_1000 : decode cL_law 1000 = .ok (.iadd, 1) := qr0 (P := 960) (o := 40) (op := 96) qLW15 (by decide +kernel) qo96
theorem dL_law_1001 : decode cL_law 1001 = .ok (.iaload, 1) := qr0 (P := 960) (o := 41) (op := 46) qLW15 (by decide +kernel) qo46
theorem dL_law_1002 : decode cL_law 1002 = .ok (.aload_n 0, 1) := qr0 (P := 960) (o := 42) (op := 42) qLW15 (by decide +kernel) qo42
theorem dL_law_1003 : decode cL_law 1003 = .ok (.iload 5, 2) := qr1 (P := 960) (o := 43) (op := 21) (v := 5) qLW15 (by decide +kernel) qo21
theorem dL_law_1005 : decode cL_law 1005 = .ok (.iconst 2, 1) := qr0 (P := 960) (o := 45) (op := 5) qLW15 (by decide +kernel) qo5
theorem dL_law_1006 : decode cL_law 1006 = .ok (.iadd, 1) := qr0 (P := 960) (o := 46) (op := 96) qLW15 (by decide +kernel) qo96
theorem dL_law_1007 : decode cL_law 1007 = .ok (.iaload, 1) := qr0 (P := 960) (o := 47) (op := 46) qLW15 (by decide +kernel) qo46
theorem dL_law_1008 : decode cL_law 1008 = .ok (.aload_n 0, 1) := qr0 (P := 960) (o := 48) (op := 42) qLW15 (by decide +kernel) qo42
theorem dL_law_1009 : decode cL_law 1009 = .ok (.iload 5, 2) := qr1 (P := 960) (o := 49) (op := 21) (v := 5) qLW15 (by decide +kernel) qo21
theorem dL_law_1011 : decode cL_law 1011 = .ok (.iconst 3, 1) := qr0 (P := 960) (o := 51) (op := 6) qLW15 (by decide +kernel) qo6
theorem dL_law_1012 : decode cL_law 1012 = .ok (.iadd, 1) := qr0 (P := 960) (o := 52) (op := 96) qLW15 (by decide +kernel) qo96
theorem dL_law_1013 : decode cL_law 1013 = .ok (.iaload, 1) := qr0 (P := 960) (o := 53) (op := 46) qLW15 (by decide +kernel) qo46
theorem dL_law_1014 : decode cL_law 1014 = .ok (.invokevirtual 225, 3) := qr2 (P := 960) (o := 54) (op := 182) (v := 225) qLW15 (by decide +kernel) qo182
theorem dL_law_1017 : decode cL_law 1017 = .ok (.istore 7, 2) := qr1 (P := 960) (o := 57) (op := 54) (v := 7) qLW15 (by decide +kernel) qo54
theorem dL_law_1019 : decode cL_law 1019 = .ok (.goto 922, 3) := qr2 (P := 960) (o := 59) (op := 167) (v := 922) qLW15 (by decide +kernel) (fun h h2 => qo167 h (qs2 h2 (by decide +kernel)))
theorem dL_law_1022 : decode cL_law 1022 = .ok (.aload_n 1, 1) := qr0 (P := 960) (o := 62) (op := 43) qLW15 (by decide +kernel) qo43
theorem dL_law_1023 : decode cL_law 1023 = .ok (.aload_n 0, 1) := qr0 (P := 960) (o := 63) (op := 42) qLW15 (by decide +kernel) qo42
theorem dL_law_1024 : decode cL_law 1024 = .ok (.iload 5, 2) := qr1 (P := 1024) (o := 0) (op := 21) (v := 5) qLW16 (by decide +kernel) qo21
theorem dL_law_1026 : decode cL_law 1026 = .ok (.iconst 1, 1) := qr0 (P := 1024) (o := 2) (op := 4) qLW16 (by decide +kernel) qo4
theorem dL_law_1027 : decode cL_law 1027 = .ok (.iadd, 1) := qr0 (P := 1024) (o := 3) (op := 96) qLW16 (by decide +kernel) qo96
theorem dL_law_1028 : decode cL_law 1028 = .ok (.iaload, 1) := qr0 (P := 1024) (o := 4) (op := 46) qLW16 (by decide +kernel) qo46
theorem dL_law_1029 : decode cL_law 1029 = .ok (.aload_n 0, 1) := qr0 (P := 1024) (o := 5) (op := 42) qLW16 (by decide +kernel) qo42
theorem dL_law_1030 : decode cL_law 1030 = .ok (.iload 5, 2) := qr1 (P := 1024) (o := 6) (op := 21) (v := 5) qLW16 (by decide +kernel) qo21
theorem dL_law_1032 : decode cL_law 1032 = .ok (.iconst 2, 1) := qr0 (P := 1024) (o := 8) (op := 5) qLW16 (by decide +kernel) qo5
theorem dL_law_1033 : decode cL_law 1033 = .ok (.iadd, 1) := qr0 (P := 1024) (o := 9) (op := 96) qLW16 (by decide +kernel) qo96
theorem dL_law_1034 : decode cL_law 1034 = .ok (.iaload, 1) := qr0 (P := 1024) (o := 10) (op := 46) qLW16 (by decide +kernel) qo46
theorem dL_law_1035 : decode cL_law 1035 = .ok (.aload_n 0, 1) := qr0 (P := 1024) (o := 11) (op := 42) qLW16 (by decide +kernel) qo42
theorem dL_law_1036 : decode cL_law 1036 = .ok (.iload 5, 2) := qr1 (P := 1024) (o := 12) (op := 21) (v := 5) qLW16 (by decide +kernel) qo21
theorem dL_law_1038 : decode cL_law 1038 = .ok (.iconst 3, 1) := qr0 (P := 1024) (o := 14) (op := 6) qLW16 (by decide +kernel) qo6
theorem dL_law_1039 : decode cL_law 1039 = .ok (.iadd, 1) := qr0 (P := 1024) (o := 15) (op := 96) qLW16 (by decide +kernel) qo96
theorem dL_law_1040 : decode cL_law 1040 = .ok (.iaload, 1) := qr0 (P := 1024) (o := 16) (op := 46) qLW16 (by decide +kernel) qo46
theorem dL_law_1041 : decode cL_law 1041 = .ok (.aload_n 3, 1) := qr0 (P := 1024) (o := 17) (op := 45) qLW16 (by decide +kernel) qo45
theorem dL_law_1042 : decode cL_law 1042 = .ok (.invokestatic 226, 3) := qr2 (P := 1024) (o := 18) (op := 184) (v := 226) qLW16 (by decide +kernel) qo184
theorem dL_law_1045 : decode cL_law 1045 = .ok (.istore 6, 2) := qr1 (P := 1024) (o := 21) (op := 54) (v := 6) qLW16 (by decide +kernel) qo54
theorem dL_law_1047 : decode cL_law 1047 = .ok (.aload_n 2, 1) := qr0 (P := 1024) (o := 23) (op := 44) qLW16 (by decide +kernel) qo44
theorem dL_law_1048 : decode cL_law 1048 = .ok (.aload_n 0, 1) := qr0 (P := 1024) (o := 24) (op := 42) qLW16 (by decide +kernel) qo42
theorem dL_law_1049 : decode cL_law 1049 = .ok (.iload 5, 2) := qr1 (P := 1024) (o := 25) (op := 21) (v := 5) qLW16 (by decide +kernel) qo21
theorem dL_law_1051 : decode cL_law 1051 = .ok (.iconst 1, 1) := qr0 (P := 1024) (o := 27) (op := 4) qLW16 (by decide +kernel) qo4
theorem dL_law_1052 : decode cL_law 1052 = .ok (.iadd, 1) := qr0 (P := 1024) (o := 28) (op := 96) qLW16 (by decide +kernel) qo96
theorem dL_law_1053 : decode cL_law 1053 = .ok (.iaload, 1) := qr0 (P := 1024) (o := 29) (op := 46) qLW16 (by decide +kernel) qo46
theorem dL_law_1054 : decode cL_law 1054 = .ok (.aload_n 0, 1) := qr0 (P := 1024) (o := 30) (op := 42) qLW16 (by decide +kernel) qo42
theorem dL_law_1055 : decode cL_law 1055 = .ok (.iload 5, 2) := qr1 (P := 1024) (o := 31) (op := 21) (v := 5) qLW16 (by decide +kernel) qo21
theorem dL_law_1057 : decode cL_law 1057 = .ok (.iconst 2, 1) := qr0 (P := 1024) (o := 33) (op := 5) qLW16 (by decide +kernel) qo5
theorem dL_law_1058 : decode cL_law 1058 = .ok (.iadd, 1) := qr0 (P := 1024) (o := 34) (op := 96) qLW16 (by decide +kernel) qo96
theorem dL_law_1059 : decode cL_law 1059 = .ok (.iaload, 1) := qr0 (P := 1024) (o := 35) (op := 46) qLW16 (by decide +kernel) qo46
theorem dL_law_1060 : decode cL_law 1060 = .ok (.aload_n 0, 1) := qr0 (P := 1024) (o := 36) (op := 42) qLW16 (by decide +kernel) qo42
theorem dL_law_1061 : decode cL_law 1061 = .ok (.iload 5, 2) := qr1 (P := 1024) (o := 37) (op := 21) (v := 5) qLW16 (by decide +kernel) qo21
theorem dL_law_1063 : decode cL_law 1063 = .ok (.iconst 3, 1) := qr0 (P := 1024) (o := 39) (op := 6) qLW16 (by decide +kernel) qo6
theorem dL_law_1064 : decode cL_law 1064 = .ok (.iadd, 1) := qr0 (P := 1024) (o := 40) (op := 96) qLW16 (by decide +kernel) qo96
theorem dL_law_1065 : decode cL_law 1065 = .ok (.iaload, 1) := qr0 (P := 1024) (o := 41) (op := 46) qLW16 (by decide +kernel) qo46
theorem dL_law_1066 : decode cL_law 1066 = .ok (.invokevirtual 228, 3) := qr2 (P := 1024) (o := 42) (op := 182) (v := 228) qLW16 (by decide +kernel) qo182
theorem dL_law_1069 : decode cL_law 1069 = .ok (.istore 7, 2) := qr1 (P := 1024) (o := 45) (op := 54) (v := 7) qLW16 (by decide +kernel) qo54
theorem dL_law_1071 : decode cL_law 1071 = .ok (.goto 870, 3) := qr2 (P := 1024) (o := 47) (op := 167) (v := 870) qLW16 (by decide +kernel) (fun h h2 => qo167 h (qs2 h2 (by decide +kernel)))
theorem dL_law_1074 : decode cL_law 1074 = .ok (.aload_n 1, 1) := qr0 (P := 1024) (o := 50) (op := 43) qLW16 (by decide +kernel) qo43
theorem dL_law_1075 : decode cL_law 1075 = .ok (.aload_n 0, 1) := qr0 (P := 1024) (o := 51) (op := 42) qLW16 (by decide +kernel) qo42
theorem dL_law_1076 : decode cL_law 1076 = .ok (.iload 5, 2) := qr1 (P := 1024) (o := 52) (op := 21) (v := 5) qLW16 (by decide +kernel) qo21
theorem dL_law_1078 : decode cL_law 1078 = .ok (.iconst 1, 1) := qr0 (P := 1024) (o := 54) (op := 4) qLW16 (by decide +kernel) qo4
theorem dL_law_1079 : decode cL_law 1079 = .ok (.iadd, 1) := qr0 (P := 1024) (o := 55) (op := 96) qLW16 (by decide +kernel) qo96
theorem dL_law_1080 : decode cL_law 1080 = .ok (.iaload, 1) := qr0 (P := 1024) (o := 56) (op := 46) qLW16 (by decide +kernel) qo46
theorem dL_law_1081 : decode cL_law 1081 = .ok (.aload_n 0, 1) := qr0 (P := 1024) (o := 57) (op := 42) qLW16 (by decide +kernel) qo42
theorem dL_law_1082 : decode cL_law 1082 = .ok (.iload 5, 2) := qr1 (P := 1024) (o := 58) (op := 21) (v := 5) qLW16 (by decide +kernel) qo21
theorem dL_law_1084 : decode cL_law 1084 = .ok (.iconst 2, 1) := qr0 (P := 1024) (o := 60) (op := 5) qLW16 (by decide +kernel) qo5
theorem dL_law_1085 : decode cL_law 1085 = .ok (.iadd, 1) := qr0 (P := 1024) (o := 61) (op := 96) qLW16 (by decide +kernel) qo96
theorem dL_law_1086 : decode cL_law 1086 = .ok (.iaload, 1) := qr0 (P := 1024) (o := 62) (op := 46) qLW16 (by decide +kernel) qo46
theorem dL_law_1087 : decode cL_law 1087 = .ok (.aload_n 0, 1) := qr0 (P := 1024) (o := 63) (op := 42) qLW16 (by decide +kernel) qo42
theorem dL_law_1088 : decode cL_law 1088 = .ok (.iload 5, 2) := qr1 (P := 1088) (o := 0) (op := 21) (v := 5) qLW17 (by decide +kernel) qo21
theorem dL_law_1090 : decode cL_law 1090 = .ok (.iconst 3, 1) := qr0 (P := 1088) (o := 2) (op := 6) qLW17 (by decide +kernel) qo6
theorem dL_law_1091 : decode cL_law 1091 = .ok (.iadd, 1) := qr0 (P := 1088) (o := 3) (op := 96) qLW17 (by decide +kernel) qo96
theorem dL_law_1092 : decode cL_law 1092 = .ok (.iaload, 1) := qr0 (P := 1088) (o := 4) (op := 46) qLW17 (by decide +kernel) qo46
theorem dL_law_1093 : decode cL_law 1093 = .ok (.aload_n 3, 1) := qr0 (P := 1088) (o := 5) (op := 45) qLW17 (by decide +kernel) qo45
theorem dL_law_1094 : decode cL_law 1094 = .ok (.invokestatic 229, 3) := qr2 (P := 1088) (o := 6) (op := 184) (v := 229) qLW17 (by decide +kernel) qo184
theorem dL_law_1097 : decode cL_law 1097 = .ok (.istore 6, 2) := qr1 (P := 1088) (o := 9) (op := 54) (v := 6) qLW17 (by decide +kernel) qo54
theorem dL_law_1099 : decode cL_law 1099 = .ok (.aload_n 2, 1) := qr0 (P := 1088) (o := 11) (op := 44) qLW17 (by decide +kernel) qo44
theorem dL_law_1100 : decode cL_law 1100 = .ok (.aload_n 0, 1) := qr0 (P := 1088) (o := 12) (op := 42) qLW17 (by decide +kernel) qo42
theorem dL_law_1101 : decode cL_law 1101 = .ok (.iload 5, 2) := qr1 (P := 1088) (o := 13) (op := 21) (v := 5) qLW17 (by decide +kernel) qo21
theorem dL_law_1103 : decode cL_law 1103 = .ok (.iconst 1, 1) := qr0 (P := 1088) (o := 15) (op := 4) qLW17 (by decide +kernel) qo4
theorem dL_law_1104 : decode cL_law 1104 = .ok (.iadd, 1) := qr0 (P := 1088) (o := 16) (op := 96) qLW17 (by decide +kernel) qo96
theorem dL_law_1105 : decode cL_law 1105 = .ok (.iaload, 1) := qr0 (P := 1088) (o := 17) (op := 46) qLW17 (by decide +kernel) qo46
theorem dL_law_1106 : decode cL_law 1106 = .ok (.aload_n 0, 1) := qr0 (P := 1088) (o := 18) (op := 42) qLW17 (by decide +kernel) qo42
theorem dL_law_1107 : decode cL_law 1107 = .ok (.iload 5, 2) := qr1 (P := 1088) (o := 19) (op := 21) (v := 5) qLW17 (by decide +kernel) qo21
theorem dL_law_1109 : decode cL_law 1109 = .ok (.iconst 2, 1) := qr0 (P := 1088) (o := 21) (op := 5) qLW17 (by decide +kernel) qo5
theorem dL_law_1110 : decode cL_law 1110 = .ok (.iadd, 1) := qr0 (P := 1088) (o := 22) (op := 96) qLW17 (by decide +kernel) qo96
theorem dL_law_1111 : decode cL_law 1111 = .ok (.iaload, 1) := qr0 (P := 1088) (o := 23) (op := 46) qLW17 (by decide +kernel) qo46
theorem dL_law_1112 : decode cL_law 1112 = .ok (.aload_n 0, 1) := qr0 (P := 1088) (o := 24) (op := 42) qLW17 (by decide +kernel) qo42
theorem dL_law_1113 : decode cL_law 1113 = .ok (.iload 5, 2) := qr1 (P := 1088) (o := 25) (op := 21) (v := 5) qLW17 (by decide +kernel) qo21
theorem dL_law_1115 : decode cL_law 1115 = .ok (.iconst 3, 1) := qr0 (P := 1088) (o := 27) (op := 6) qLW17 (by decide +kernel) qo6
theorem dL_law_1116 : decode cL_law 1116 = .ok (.iadd, 1) := qr0 (P := 1088) (o := 28) (op := 96) qLW17 (by decide +kernel) qo96
theorem dL_law_1117 : decode cL_law 1117 = .ok (.iaload, 1) := qr0 (P := 1088) (o := 29) (op := 46) qLW17 (by decide +kernel) qo46
theorem dL_law_1118 : decode cL_law 1118 = .ok (.invokevirtual 231, 3) := qr2 (P := 1088) (o := 30) (op := 182) (v := 231) qLW17 (by decide +kernel) qo182
theorem dL_law_1121 : decode cL_law 1121 = .ok (.istore 7, 2) := qr1 (P := 1088) (o := 33) (op := 54) (v := 7) qLW17 (by decide +kernel) qo54
theorem dL_law_1123 : decode cL_law 1123 = .ok (.goto 818, 3) := qr2 (P := 1088) (o := 35) (op := 167) (v := 818) qLW17 (by decide +kernel) (fun h h2 => qo167 h (qs2 h2 (by decide +kernel)))
theorem dL_law_1126 : decode cL_law 1126 = .ok (.aload_n 1, 1) := qr0 (P := 1088) (o := 38) (op := 43) qLW17 (by decide +kernel) qo43
theorem dL_law_1127 : decode cL_law 1127 = .ok (.aload_n 0, 1) := qr0 (P := 1088) (o := 39) (op := 42) qLW17 (by decide +kernel) qo42
theorem dL_law_1128 : decode cL_law 1128 = .ok (.iload 5, 2) := qr1 (P := 1088) (o := 40) (op := 21) (v := 5) qLW17 (by decide +kernel) qo21
theorem dL_law_1130 : decode cL_law 1130 = .ok (.iconst 1, 1) := qr0 (P := 1088) (o := 42) (op := 4) qLW17 (by decide +kernel) qo4
theorem dL_law_1131 : decode cL_law 1131 = .ok (.iadd, 1) := qr0 (P := 1088) (o := 43) (op := 96) qLW17 (by decide +kernel) qo96
theorem dL_law_1132 : decode cL_law 1132 = .ok (.iaload, 1) := qr0 (P := 1088) (o := 44) (op := 46) qLW17 (by decide +kernel) qo46
theorem dL_law_1133 : decode cL_law 1133 = .ok (.aload_n 3, 1) := qr0 (P := 1088) (o := 45) (op := 45) qLW17 (by decide +kernel) qo45
theorem dL_law_1134 : decode cL_law 1134 = .ok (.invokestatic 232, 3) := qr2 (P := 1088) (o := 46) (op := 184) (v := 232) qLW17 (by decide +kernel) qo184
theorem dL_law_1137 : decode cL_law 1137 = .ok (.istore 6, 2) := qr1 (P := 1088) (o := 49) (op := 54) (v := 6) qLW17 (by decide +kernel) qo54
theorem dL_law_1139 : decode cL_law 1139 = .ok (.aload_n 2, 1) := qr0 (P := 1088) (o := 51) (op := 44) qLW17 (by decide +kernel) qo44
theorem dL_law_1140 : decode cL_law 1140 = .ok (.aload_n 0, 1) := qr0 (P := 1088) (o := 52) (op := 42) qLW17 (by decide +kernel) qo42
theorem dL_law_1141 : decode cL_law 1141 = .ok (.iload 5, 2) := qr1 (P := 1088) (o := 53) (op := 21) (v := 5) qLW17 (by decide +kernel) qo21
theorem dL_law_1143 : decode cL_law 1143 = .ok (.iconst 1, 1) := qr0 (P := 1088) (o := 55) (op := 4) qLW17 (by decide +kernel) qo4
theorem dL_law_1144 : decode cL_law 1144 = .ok (.iadd, 1) := qr0 (P := 1088) (o := 56) (op := 96) qLW17 (by decide +kernel) qo96
theorem dL_law_1145 : decode cL_law 1145 = .ok (.iaload, 1) := qr0 (P := 1088) (o := 57) (op := 46) qLW17 (by decide +kernel) qo46
theorem dL_law_1146 : decode cL_law 1146 = .ok (.invokevirtual 234, 3) := qr2 (P := 1088) (o := 58) (op := 182) (v := 234) qLW17 (by decide +kernel) qo182
theorem dL_law_1149 : decode cL_law 1149 = .ok (.istore 7, 2) := qr1 (P := 1088) (o := 61) (op := 54) (v := 7) qLW17 (by decide +kernel) qo54
theorem dL_law_1151 : decode cL_law 1151 = .ok (.goto 790, 3) := qr2 (P := 1088) (o := 63) (op := 167) (v := 790) qLW17 (by decide +kernel) (fun h h2 => qo167 h (qs2 h2 (by decide +kernel)))
theorem dL_law_1154 : decode cL_law 1154 = .ok (.aload_n 1, 1) := qr0 (P := 1152) (o := 2) (op := 43) qLW18 (by decide +kernel) qo43
theorem dL_law_1155 : decode cL_law 1155 = .ok (.aload_n 0, 1) := qr0 (P := 1152) (o := 3) (op := 42) qLW18 (by decide +kernel) qo42
theorem dL_law_1156 : decode cL_law 1156 = .ok (.iload 5, 2) := qr1 (P := 1152) (o := 4) (op := 21) (v := 5) qLW18 (by decide +kernel) qo21
theorem dL_law_1158 : decode cL_law 1158 = .ok (.iconst 1, 1) := qr0 (P := 1152) (o := 6) (op := 4) qLW18 (by decide +kernel) qo4
theorem dL_law_1159 : decode cL_law 1159 = .ok (.iadd, 1) := qr0 (P := 1152) (o := 7) (op := 96) qLW18 (by decide +kernel) qo96
theorem dL_law_1160 : decode cL_law 1160 = .ok (.iaload, 1) := qr0 (P := 1152) (o := 8) (op := 46) qLW18 (by decide +kernel) qo46
theorem dL_law_1161 : decode cL_law 1161 = .ok (.aload_n 3, 1) := qr0 (P := 1152) (o := 9) (op := 45) qLW18 (by decide +kernel) qo45
theorem dL_law_1162 : decode cL_law 1162 = .ok (.invokestatic 235, 3) := qr2 (P := 1152) (o := 10) (op := 184) (v := 235) qLW18 (by decide +kernel) qo184
theorem dL_law_1165 : decode cL_law 1165 = .ok (.istore 6, 2) := qr1 (P := 1152) (o := 13) (op := 54) (v := 6) qLW18 (by decide +kernel) qo54
theorem dL_law_1167 : decode cL_law 1167 = .ok (.aload_n 2, 1) := qr0 (P := 1152) (o := 15) (op := 44) qLW18 (by decide +kernel) qo44
theorem dL_law_1168 : decode cL_law 1168 = .ok (.aload_n 0, 1) := qr0 (P := 1152) (o := 16) (op := 42) qLW18 (by decide +kernel) qo42
theorem dL_law_1169 : decode cL_law 1169 = .ok (.iload 5, 2) := qr1 (P := 1152) (o := 17) (op := 21) (v := 5) qLW18 (by decide +kernel) qo21
theorem dL_law_1171 : decode cL_law 1171 = .ok (.iconst 1, 1) := qr0 (P := 1152) (o := 19) (op := 4) qLW18 (by decide +kernel) qo4
theorem dL_law_1172 : decode cL_law 1172 = .ok (.iadd, 1) := qr0 (P := 1152) (o := 20) (op := 96) qLW18 (by decide +kernel) qo96
theorem dL_law_1173 : decode cL_law 1173 = .ok (.iaload, 1) := qr0 (P := 1152) (o := 21) (op := 46) qLW18 (by decide +kernel) qo46
theorem dL_law_1174 : decode cL_law 1174 = .ok (.invokevirtual 237, 3) := qr2 (P := 1152) (o := 22) (op := 182) (v := 237) qLW18 (by decide +kernel) qo182
theorem dL_law_1177 : decode cL_law 1177 = .ok (.istore 7, 2) := qr1 (P := 1152) (o := 25) (op := 54) (v := 7) qLW18 (by decide +kernel) qo54
theorem dL_law_1179 : decode cL_law 1179 = .ok (.goto 762, 3) := qr2 (P := 1152) (o := 27) (op := 167) (v := 762) qLW18 (by decide +kernel) (fun h h2 => qo167 h (qs2 h2 (by decide +kernel)))
theorem dL_law_1182 : decode cL_law 1182 = .ok (.aload_n 1, 1) := qr0 (P := 1152) (o := 30) (op := 43) qLW18 (by decide +kernel) qo43
theorem dL_law_1183 : decode cL_law 1183 = .ok (.aload_n 0, 1) := qr0 (P := 1152) (o := 31) (op := 42) qLW18 (by decide +kernel) qo42
theorem dL_law_1184 : decode cL_law 1184 = .ok (.iload 5, 2) := qr1 (P := 1152) (o := 32) (op := 21) (v := 5) qLW18 (by decide +kernel) qo21
theorem dL_law_1186 : decode cL_law 1186 = .ok (.iconst 1, 1) := qr0 (P := 1152) (o := 34) (op := 4) qLW18 (by decide +kernel) qo4
theorem dL_law_1187 : decode cL_law 1187 = .ok (.iadd, 1) := qr0 (P := 1152) (o := 35) (op := 96) qLW18 (by decide +kernel) qo96
theorem dL_law_1188 : decode cL_law 1188 = .ok (.iaload, 1) := qr0 (P := 1152) (o := 36) (op := 46) qLW18 (by decide +kernel) qo46
theorem dL_law_1189 : decode cL_law 1189 = .ok (.aload_n 0, 1) := qr0 (P := 1152) (o := 37) (op := 42) qLW18 (by decide +kernel) qo42
theorem dL_law_1190 : decode cL_law 1190 = .ok (.iload 5, 2) := qr1 (P := 1152) (o := 38) (op := 21) (v := 5) qLW18 (by decide +kernel) qo21
theorem dL_law_1192 : decode cL_law 1192 = .ok (.iconst 2, 1) := qr0 (P := 1152) (o := 40) (op := 5) qLW18 (by decide +kernel) qo5
theorem dL_law_1193 : decode cL_law 1193 = .ok (.iadd, 1) := qr0 (P := 1152) (o := 41) (op := 96) qLW18 (by decide +kernel) qo96
theorem dL_law_1194 : decode cL_law 1194 = .ok (.iaload, 1) := qr0 (P := 1152) (o := 42) (op := 46) qLW18 (by decide +kernel) qo46
theorem dL_law_1195 : decode cL_law 1195 = .ok (.ifCond .eq 7, 3) := qr2 (P := 1152) (o := 43) (op := 153) (v := 7) qLW18 (by decide +kernel) (fun h h2 => qo153 h (qs2 h2 (by decide +kernel)))
theorem dL_law_1198 : decode cL_law 1198 = .ok (.iconst 1, 1) := qr0 (P := 1152) (o := 46) (op := 4) qLW18 (by decide +kernel) qo4
theorem dL_law_1199 : decode cL_law 1199 = .ok (.goto 4, 3) := qr2 (P := 1152) (o := 47) (op := 167) (v := 4) qLW18 (by decide +kernel) (fun h h2 => qo167 h (qs2 h2 (by decide +kernel)))
theorem dL_law_1202 : decode cL_law 1202 = .ok (.iconst 0, 1) := qr0 (P := 1152) (o := 50) (op := 3) qLW18 (by decide +kernel) qo3
theorem dL_law_1203 : decode cL_law 1203 = .ok (.aload_n 3, 1) := qr0 (P := 1152) (o := 51) (op := 45) qLW18 (by decide +kernel) qo45
theorem dL_law_1204 : decode cL_law 1204 = .ok (.invokestatic 238, 3) := qr2 (P := 1152) (o := 52) (op := 184) (v := 238) qLW18 (by decide +kernel) qo184
theorem dL_law_1207 : decode cL_law 1207 = .ok (.istore 6, 2) := qr1 (P := 1152) (o := 55) (op := 54) (v := 6) qLW18 (by decide +kernel) qo54
theorem dL_law_1209 : decode cL_law 1209 = .ok (.aload_n 2, 1) := qr0 (P := 1152) (o := 57) (op := 44) qLW18 (by decide +kernel) qo44
theorem dL_law_1210 : decode cL_law 1210 = .ok (.aload_n 0, 1) := qr0 (P := 1152) (o := 58) (op := 42) qLW18 (by decide +kernel) qo42
theorem dL_law_1211 : decode cL_law 1211 = .ok (.iload 5, 2) := qr1 (P := 1152) (o := 59) (op := 21) (v := 5) qLW18 (by decide +kernel) qo21
theorem dL_law_1213 : decode cL_law 1213 = .ok (.iconst 1, 1) := qr0 (P := 1152) (o := 61) (op := 4) qLW18 (by decide +kernel) qo4
theorem dL_law_1214 : decode cL_law 1214 = .ok (.iadd, 1) := qr0 (P := 1152) (o := 62) (op := 96) qLW18 (by decide +kernel) qo96
theorem dL_law_1215 : decode cL_law 1215 = .ok (.iaload, 1) := qr0 (P := 1152) (o := 63) (op := 46) qLW18 (by decide +kernel) qo46
theorem dL_law_1216 : decode cL_law 1216 = .ok (.aload_n 0, 1) := qr0 (P := 1216) (o := 0) (op := 42) qLW19 (by decide +kernel) qo42
theorem dL_law_1217 : decode cL_law 1217 = .ok (.iload 5, 2) := qr1 (P := 1216) (o := 1) (op := 21) (v := 5) qLW19 (by decide +kernel) qo21
theorem dL_law_1219 : decode cL_law 1219 = .ok (.iconst 2, 1) := qr0 (P := 1216) (o := 3) (op := 5) qLW19 (by decide +kernel) qo5
theorem dL_law_1220 : decode cL_law 1220 = .ok (.iadd, 1) := qr0 (P := 1216) (o := 4) (op := 96) qLW19 (by decide +kernel) qo96
theorem dL_law_1221 : decode cL_law 1221 = .ok (.iaload, 1) := qr0 (P := 1216) (o := 5) (op := 46) qLW19 (by decide +kernel) qo46
theorem dL_law_1222 : decode cL_law 1222 = .ok (.ifCond .eq 7, 3) := qr2 (P := 1216) (o := 6) (op := 153) (v := 7) qLW19 (by decide +kernel) (fun h h2 => qo153 h (qs2 h2 (by decide +kernel)))
theorem dL_law_1225 : decode cL_law 1225 = .ok (.iconst 1, 1) := qr0 (P := 1216) (o := 9) (op := 4) qLW19 (by decide +kernel) qo4
theorem dL_law_1226 : decode cL_law 1226 = .ok (.goto 4, 3) := qr2 (P := 1216) (o := 10) (op := 167) (v := 4) qLW19 (by decide +kernel) (fun h h2 => qo167 h (qs2 h2 (by decide +kernel)))
theorem dL_law_1229 : decode cL_law 1229 = .ok (.iconst 0, 1) := qr0 (P := 1216) (o := 13) (op := 3) qLW19 (by decide +kernel) qo3
theorem dL_law_1230 : decode cL_law 1230 = .ok (.invokevirtual 241, 3) := qr2 (P := 1216) (o := 14) (op := 182) (v := 241) qLW19 (by decide +kernel) qo182
theorem dL_law_1233 : decode cL_law 1233 = .ok (.istore 7, 2) := qr1 (P := 1216) (o := 17) (op := 54) (v := 7) qLW19 (by decide +kernel) qo54
theorem dL_law_1235 : decode cL_law 1235 = .ok (.goto 706, 3) := qr2 (P := 1216) (o := 19) (op := 167) (v := 706) qLW19 (by decide +kernel) (fun h h2 => qo167 h (qs2 h2 (by decide +kernel)))
theorem dL_law_1238 : decode cL_law 1238 = .ok (.aload_n 1, 1) := qr0 (P := 1216) (o := 22) (op := 43) qLW19 (by decide +kernel) qo43
theorem dL_law_1239 : decode cL_law 1239 = .ok (.aload_n 0, 1) := qr0 (P := 1216) (o := 23) (op := 42) qLW19 (by decide +kernel) qo42
theorem dL_law_1240 : decode cL_law 1240 = .ok (.iload 5, 2) := qr1 (P := 1216) (o := 24) (op := 21) (v := 5) qLW19 (by decide +kernel) qo21
theorem dL_law_1242 : decode cL_law 1242 = .ok (.iconst 1, 1) := qr0 (P := 1216) (o := 26) (op := 4) qLW19 (by decide +kernel) qo4
theorem dL_law_1243 : decode cL_law 1243 = .ok (.iadd, 1) := qr0 (P := 1216) (o := 27) (op := 96) qLW19 (by decide +kernel) qo96
theorem dL_law_1244 : decode cL_law 1244 = .ok (.iaload, 1) := qr0 (P := 1216) (o := 28) (op := 46) qLW19 (by decide +kernel) qo46
theorem dL_law_1245 : decode cL_law 1245 = .ok (.aload_n 0, 1) := qr0 (P := 1216) (o := 29) (op := 42) qLW19 (by decide +kernel) qo42
theorem dL_law_1246 : decode cL_law 1246 = .ok (.iload 5, 2) := qr1 (P := 1216) (o := 30) (op := 21) (v := 5) qLW19 (by decide +kernel) qo21
theorem dL_law_1248 : decode cL_law 1248 = .ok (.iconst 2, 1) := qr0 (P := 1216) (o := 32) (op := 5) qLW19 (by decide +kernel) qo5
theorem dL_law_1249 : decode cL_law 1249 = .ok (.iadd, 1) := qr0 (P := 1216) (o := 33) (op := 96) qLW19 (by decide +kernel) qo96
theorem dL_law_1250 : decode cL_law 1250 = .ok (.iaload, 1) := qr0 (P := 1216) (o := 34) (op := 46) qLW19 (by decide +kernel) qo46
theorem dL_law_1251 : decode cL_law 1251 = .ok (.aload_n 0, 1) := qr0 (P := 1216) (o := 35) (op := 42) qLW19 (by decide +kernel) qo42
theorem dL_law_1252 : decode cL_law 1252 = .ok (.iload 5, 2) := qr1 (P := 1216) (o := 36) (op := 21) (v := 5) qLW19 (by decide +kernel) qo21
theorem dL_law_1254 : decode cL_law 1254 = .ok (.iconst 3, 1) := qr0 (P := 1216) (o := 38) (op := 6) qLW19 (by decide +kernel) qo6
theorem dL_law_1255 : decode cL_law 1255 = .ok (.iadd, 1) := qr0 (P := 1216) (o := 39) (op := 96) qLW19 (by decide +kernel) qo96
theorem dL_law_1256 : decode cL_law 1256 = .ok (.iaload, 1) := qr0 (P := 1216) (o := 40) (op := 46) qLW19 (by decide +kernel) qo46
theorem dL_law_1257 : decode cL_law 1257 = .ok (.aload_n 0, 1) := qr0 (P := 1216) (o := 41) (op := 42) qLW19 (by decide +kernel) qo42
theorem dL_law_1258 : decode cL_law 1258 = .ok (.iload 5, 2) := qr1 (P := 1216) (o := 42) (op := 21) (v := 5) qLW19 (by decide +kernel) qo21
theorem dL_law_1260 : decode cL_law 1260 = .ok (.iconst 4, 1) := qr0 (P := 1216) (o := 44) (op := 7) qLW19 (by decide +kernel) qo7
theorem dL_law_1261 : decode cL_law 1261 = .ok (.iadd, 1) := qr0 (P := 1216) (o := 45) (op := 96) qLW19 (by decide +kernel) qo96
theorem dL_law_1262 : decode cL_law 1262 = .ok (.iaload, 1) := qr0 (P := 1216) (o := 46) (op := 46) qLW19 (by decide +kernel) qo46
theorem dL_law_1263 : decode cL_law 1263 = .ok (.ifCond .eq 7, 3) := qr2 (P := 1216) (o := 47) (op := 153) (v := 7) qLW19 (by decide +kernel) (fun h h2 => qo153 h (qs2 h2 (by decide +kernel)))
theorem dL_law_1266 : decode cL_law 1266 = .ok (.iconst 1, 1) := qr0 (P := 1216) (o := 50) (op := 4) qLW19 (by decide +kernel) qo4
theorem dL_law_1267 : decode cL_law 1267 = .ok (.goto 4, 3) := qr2 (P := 1216) (o := 51) (op := 167) (v := 4) qLW19 (by decide +kernel) (fun h h2 => qo167 h (qs2 h2 (by decide +kernel)))
theorem dL_law_1270 : decode cL_law 1270 = .ok (.iconst 0, 1) := qr0 (P := 1216) (o := 54) (op := 3) qLW19 (by decide +kernel) qo3
theorem dL_law_1271 : decode cL_law 1271 = .ok (.aload_n 3, 1) := qr0 (P := 1216) (o := 55) (op := 45) qLW19 (by decide +kernel) qo45
theorem dL_law_1272 : decode cL_law 1272 = .ok (.invokestatic 242, 3) := qr2 (P := 1216) (o := 56) (op := 184) (v := 242) qLW19 (by decide +kernel) qo184
theorem dL_law_1275 : decode cL_law 1275 = .ok (.istore 6, 2) := qr1 (P := 1216) (o := 59) (op := 54) (v := 6) qLW19 (by decide +kernel) qo54
theorem dL_law_1277 : decode cL_law 1277 = .ok (.aload_n 2, 1) := qr0 (P := 1216) (o := 61) (op := 44) qLW19 (by decide +kernel) qo44
theorem dL_law_1278 : decode cL_law 1278 = .ok (.aload_n 0, 1) := qr0 (P := 1216) (o := 62) (op := 42) qLW19 (by decide +kernel) qo42
theorem dL_law_1279 : decode cL_law 1279 = .ok (.iload 5, 2) := qr1 (P := 1216) (o := 63) (op := 21) (v := 5) qLW19 (by decide +kernel) qo21
theorem dL_law_1281 : decode cL_law 1281 = .ok (.iconst 1, 1) := qr0 (P := 1280) (o := 1) (op := 4) qLW20 (by decide +kernel) qo4
theorem dL_law_1282 : decode cL_law 1282 = .ok (.iadd, 1) := qr0 (P := 1280) (o := 2) (op := 96) qLW20 (by decide +kernel) qo96
theorem dL_law_1283 : decode cL_law 1283 = .ok (.iaload, 1) := qr0 (P := 1280) (o := 3) (op := 46) qLW20 (by decide +kernel) qo46
theorem dL_law_1284 : decode cL_law 1284 = .ok (.aload_n 0, 1) := qr0 (P := 1280) (o := 4) (op := 42) qLW20 (by decide +kernel) qo42
theorem dL_law_1285 : decode cL_law 1285 = .ok (.iload 5, 2) := qr1 (P := 1280) (o := 5) (op := 21) (v := 5) qLW20 (by decide +kernel) qo21
theorem dL_law_1287 : decode cL_law 1287 = .ok (.iconst 2, 1) := qr0 (P := 1280) (o := 7) (op := 5) qLW20 (by decide +kernel) qo5
theorem dL_law_1288 : decode cL_law 1288 = .ok (.iadd, 1) := qr0 (P := 1280) (o := 8) (op := 96) qLW20 (by decide +kernel) qo96
theorem dL_law_1289 : decode cL_law 1289 = .ok (.iaload, 1) := qr0 (P := 1280) (o := 9) (op := 46) qLW20 (by decide +kernel) qo46
theorem dL_law_1290 : decode cL_law 1290 = .ok (.aload_n 0, 1) := qr0 (P := 1280) (o := 10) (op := 42) qLW20 (by decide +kernel) qo42
theorem dL_law_1291 : decode cL_law 1291 = .ok (.iload 5, 2) := qr1 (P := 1280) (o := 11) (op := 21) (v := 5) qLW20 (by decide +kernel) qo21
theorem dL_law_1293 : decode cL_law 1293 = .ok (.iconst 3, 1) := qr0 (P := 1280) (o := 13) (op := 6) qLW20 (by decide +kernel) qo6
theorem dL_law_1294 : decode cL_law 1294 = .ok (.iadd, 1) := qr0 (P := 1280) (o := 14) (op := 96) qLW20 (by decide +kernel) qo96
theorem dL_law_1295 : decode cL_law 1295 = .ok (.iaload, 1) := qr0 (P := 1280) (o := 15) (op := 46) qLW20 (by decide +kernel) qo46
theorem dL_law_1296 : decode cL_law 1296 = .ok (.aload_n 0, 1) := qr0 (P := 1280) (o := 16) (op := 42) qLW20 (by decide +kernel) qo42
theorem dL_law_1297 : decode cL_law 1297 = .ok (.iload 5, 2) := qr1 (P := 1280) (o := 17) (op := 21) (v := 5) qLW20 (by decide +kernel) qo21
theorem dL_law_1299 : decode cL_law 1299 = .ok (.iconst 4, 1) := qr0 (P := 1280) (o := 19) (op := 7) qLW20 (by decide +kernel) qo7
theorem dL_law_1300 : decode cL_law 1300 = .ok (.iadd, 1) := qr0 (P := 1280) (o := 20) (op := 96) qLW20 (by decide +kernel) qo96
theorem dL_law_1301 : decode cL_law 1301 = .ok (.iaload, 1) := qr0 (P := 1280) (o := 21) (op := 46) qLW20 (by decide +kernel) qo46
theorem dL_law_1302 : decode cL_law 1302 = .ok (.ifCond .eq 7, 3) := qr2 (P := 1280) (o := 22) (op := 153) (v := 7) qLW20 (by decide +kernel) (fun h h2 => qo153 h (qs2 h2 (by decide +kernel)))
theorem dL_law_1305 : decode cL_law 1305 = .ok (.iconst 1, 1) := qr0 (P := 1280) (o := 25) (op := 4) qLW20 (by decide +kernel) qo4
theorem dL_law_1306 : decode cL_law 1306 = .ok (.goto 4, 3) := qr2 (P := 1280) (o := 26) (op := 167) (v := 4) qLW20 (by decide +kernel) (fun h h2 => qo167 h (qs2 h2 (by decide +kernel)))
theorem dL_law_1309 : decode cL_law 1309 = .ok (.iconst 0, 1) := qr0 (P := 1280) (o := 29) (op := 3) qLW20 (by decide +kernel) qo3
theorem dL_law_1310 : decode cL_law 1310 = .ok (.invokevirtual 245, 3) := qr2 (P := 1280) (o := 30) (op := 182) (v := 245) qLW20 (by decide +kernel) qo182
theorem dL_law_1313 : decode cL_law 1313 = .ok (.istore 7, 2) := qr1 (P := 1280) (o := 33) (op := 54) (v := 7) qLW20 (by decide +kernel) qo54
theorem dL_law_1315 : decode cL_law 1315 = .ok (.goto 626, 3) := qr2 (P := 1280) (o := 35) (op := 167) (v := 626) qLW20 (by decide +kernel) (fun h h2 => qo167 h (qs2 h2 (by decide +kernel)))
theorem dL_law_1318 : decode cL_law 1318 = .ok (.aload_n 1, 1) := qr0 (P := 1280) (o := 38) (op := 43) qLW20 (by decide +kernel) qo43
theorem dL_law_1319 : decode cL_law 1319 = .ok (.aload_n 0, 1) := qr0 (P := 1280) (o := 39) (op := 42) qLW20 (by decide +kernel) qo42
theorem dL_law_1320 : decode cL_law 1320 = .ok (.iload 5, 2) := qr1 (P := 1280) (o := 40) (op := 21) (v := 5) qLW20 (by decide +kernel) qo21
theorem dL_law_1322 : decode cL_law 1322 = .ok (.iconst 1, 1) := qr0 (P := 1280) (o := 42) (op := 4) qLW20 (by decide +kernel) qo4
theorem dL_law_1323 : decode cL_law 1323 = .ok (.iadd, 1) := qr0 (P := 1280) (o := 43) (op := 96) qLW20 (by decide +kernel) qo96
theorem dL_law_1324 : decode cL_law 1324 = .ok (.iaload, 1) := qr0 (P := 1280) (o := 44) (op := 46) qLW20 (by decide +kernel) qo46
theorem dL_law_1325 : decode cL_law 1325 = .ok (.aload_n 0, 1) := qr0 (P := 1280) (o := 45) (op := 42) qLW20 (by decide +kernel) qo42
theorem dL_law_1326 : decode cL_law 1326 = .ok (.iload 5, 2) := qr1 (P := 1280) (o := 46) (op := 21) (v := 5) qLW20 (by decide +kernel) qo21
theorem dL_law_1328 : decode cL_law 1328 = .ok (.iconst 2, 1) := qr0 (P := 1280) (o := 48) (op := 5) qLW20 (by decide +kernel) qo5
theorem dL_law_1329 : decode cL_law 1329 = .ok (.iadd, 1) := qr0 (P := 1280) (o := 49) (op := 96) qLW20 (by decide +kernel) qo96
theorem dL_law_1330 : decode cL_law 1330 = .ok (.iaload, 1) := qr0 (P := 1280) (o := 50) (op := 46) qLW20 (by decide +kernel) qo46
theorem dL_law_1331 : decode cL_law 1331 = .ok (.aload_n 0, 1) := qr0 (P := 1280) (o := 51) (op := 42) qLW20 (by decide +kernel) qo42
theorem dL_law_1332 : decode cL_law 1332 = .ok (.iload 5, 2) := qr1 (P := 1280) (o := 52) (op := 21) (v := 5) qLW20 (by decide +kernel) qo21
theorem dL_law_1334 : decode cL_law 1334 = .ok (.iconst 3, 1) := qr0 (P := 1280) (o := 54) (op := 6) qLW20 (by decide +kernel) qo6
theorem dL_law_1335 : decode cL_law 1335 = .ok (.iadd, 1) := qr0 (P := 1280) (o := 55) (op := 96) qLW20 (by decide +kernel) qo96
theorem dL_law_1336 : decode cL_law 1336 = .ok (.iaload, 1) := qr0 (P := 1280) (o := 56) (op := 46) qLW20 (by decide +kernel) qo46
theorem dL_law_1337 : decode cL_law 1337 = .ok (.aload_n 3, 1) := qr0 (P := 1280) (o := 57) (op := 45) qLW20 (by decide +kernel) qo45
theorem dL_law_1338 : decode cL_law 1338 = .ok (.invokestatic 246, 3) := qr2 (P := 1280) (o := 58) (op := 184) (v := 246) qLW20 (by decide +kernel) qo184
theorem dL_law_1341 : decode cL_law 1341 = .ok (.istore 6, 2) := qr1 (P := 1280) (o := 61) (op := 54) (v := 6) qLW20 (by decide +kernel) qo54
theorem dL_law_1343 : decode cL_law 1343 = .ok (.aload_n 2, 1) := qr0 (P := 1280) (o := 63) (op := 44) qLW20 (by decide +kernel) qo44
theorem dL_law_1344 : decode cL_law 1344 = .ok (.aload_n 0, 1) := qr0 (P := 1344) (o := 0) (op := 42) qLW21 (by decide +kernel) qo42
theorem dL_law_1345 : decode cL_law 1345 = .ok (.iload 5, 2) := qr1 (P := 1344) (o := 1) (op := 21) (v := 5) qLW21 (by decide +kernel) qo21
theorem dL_law_1347 : decode cL_law 1347 = .ok (.iconst 1, 1) := qr0 (P := 1344) (o := 3) (op := 4) qLW21 (by decide +kernel) qo4
theorem dL_law_1348 : decode cL_law 1348 = .ok (.iadd, 1) := qr0 (P := 1344) (o := 4) (op := 96) qLW21 (by decide +kernel) qo96
theorem dL_law_1349 : decode cL_law 1349 = .ok (.iaload, 1) := qr0 (P := 1344) (o := 5) (op := 46) qLW21 (by decide +kernel) qo46
theorem dL_law_1350 : decode cL_law 1350 = .ok (.aload_n 0, 1) := qr0 (P := 1344) (o := 6) (op := 42) qLW21 (by decide +kernel) qo42
theorem dL_law_1351 : decode cL_law 1351 = .ok (.iload 5, 2) := qr1 (P := 1344) (o := 7) (op := 21) (v := 5) qLW21 (by decide +kernel) qo21
theorem dL_law_1353 : decode cL_law 1353 = .ok (.iconst 2, 1) := qr0 (P := 1344) (o := 9) (op := 5) qLW21 (by decide +kernel) qo5
theorem dL_law_1354 : decode cL_law 1354 = .ok (.iadd, 1) := qr0 (P := 1344) (o := 10) (op := 96) qLW21 (by decide +kernel) qo96
theorem dL_law_1355 : decode cL_law 1355 = .ok (.iaload, 1) := qr0 (P := 1344) (o := 11) (op := 46) qLW21 (by decide +kernel) qo46
theorem dL_law_1356 : decode cL_law 1356 = .ok (.aload_n 0, 1) := qr0 (P := 1344) (o := 12) (op := 42) qLW21 (by decide +kernel) qo42
theorem dL_law_1357 : decode cL_law 1357 = .ok (.iload 5, 2) := qr1 (P := 1344) (o := 13) (op := 21) (v := 5) qLW21 (by decide +kernel) qo21
theorem dL_law_1359 : decode cL_law 1359 = .ok (.iconst 3, 1) := qr0 (P := 1344) (o := 15) (op := 6) qLW21 (by decide +kernel) qo6
theorem dL_law_1360 : decode cL_law 1360 = .ok (.iadd, 1) := qr0 (P := 1344) (o := 16) (op := 96) qLW21 (by decide +kernel) qo96
theorem dL_law_1361 : decode cL_law 1361 = .ok (.iaload, 1) := qr0 (P := 1344) (o := 17) (op := 46) qLW21 (by decide +kernel) qo46
theorem dL_law_1362 : decode cL_law 1362 = .ok (.invokevirtual 248, 3) := qr2 (P := 1344) (o := 18) (op := 182) (v := 248) qLW21 (by decide +kernel) qo182
theorem dL_law_1365 : decode cL_law 1365 = .ok (.istore 7, 2) := qr1 (P := 1344) (o := 21) (op := 54) (v := 7) qLW21 (by decide +kernel) qo54
theorem dL_law_1367 : decode cL_law 1367 = .ok (.goto 574, 3) := qr2 (P := 1344) (o := 23) (op := 167) (v := 574) qLW21 (by decide +kernel) (fun h h2 => qo167 h (qs2 h2 (by decide +kernel)))
theorem dL_law_1370 : decode cL_law 1370 = .ok (.aload_n 1, 1) := qr0 (P := 1344) (o := 26) (op := 43) qLW21 (by decide +kernel) qo43
theorem dL_law_1371 : decode cL_law 1371 = .ok (.aload_n 0, 1) := qr0 (P := 1344) (o := 27) (op := 42) qLW21 (by decide +kernel) qo42
theorem dL_law_1372 : decode cL_law 1372 = .ok (.iload 5, 2) := qr1 (P := 1344) (o := 28) (op := 21) (v := 5) qLW21 (by decide +kernel) qo21
theorem dL_law_1374 : decode cL_law 1374 = .ok (.iconst 1, 1) := qr0 (P := 1344) (o := 30) (op := 4) qLW21 (by decide +kernel) qo4
theorem dL_law_1375 : decode cL_law 1375 = .ok (.iadd, 1) := qr0 (P := 1344) (o := 31) (op := 96) qLW21 (by decide +kernel) qo96
theorem dL_law_1376 : decode cL_law 1376 = .ok (.iaload, 1) := qr0 (P := 1344) (o := 32) (op := 46) qLW21 (by decide +kernel) qo46
theorem dL_law_1377 : decode cL_law 1377 = .ok (.aload_n 3, 1) := qr0 (P := 1344) (o := 33) (op := 45) qLW21 (by decide +kernel) qo45
theorem dL_law_1378 : decode cL_law 1378 = .ok (.invokestatic 249, 3) := qr2 (P := 1344) (o := 34) (op := 184) (v := 249) qLW21 (by decide +kernel) qo184
theorem dL_law_1381 : decode cL_law 1381 = .ok (.istore 6, 2) := qr1 (P := 1344) (o := 37) (op := 54) (v := 6) qLW21 (by decide +kernel) qo54
theorem dL_law_1383 : decode cL_law 1383 = .ok (.aload_n 2, 1) := qr0 (P := 1344) (o := 39) (op := 44) qLW21 (by decide +kernel) qo44
theorem dL_law_1384 : decode cL_law 1384 = .ok (.aload_n 0, 1) := qr0 (P := 1344) (o := 40) (op := 42) qLW21 (by decide +kernel) qo42
theorem dL_law_1385 : decode cL_law 1385 = .ok (.iload 5, 2) := qr1 (P := 1344) (o := 41) (op := 21) (v := 5) qLW21 (by decide +kernel) qo21
theorem dL_law_1387 : decode cL_law 1387 = .ok (.iconst 1, 1) := qr0 (P := 1344) (o := 43) (op := 4) qLW21 (by decide +kernel) qo4
theorem dL_law_1388 : decode cL_law 1388 = .ok (.iadd, 1) := qr0 (P := 1344) (o := 44) (op := 96) qLW21 (by decide +kernel) qo96
theorem dL_law_1389 : decode cL_law 1389 = .ok (.iaload, 1) := qr0 (P := 1344) (o := 45) (op := 46) qLW21 (by decide +kernel) qo46
theorem dL_law_1390 : decode cL_law 1390 = .ok (.invokevirtual 251, 3) := qr2 (P := 1344) (o := 46) (op := 182) (v := 251) qLW21 (by decide +kernel) qo182
theorem dL_law_1393 : decode cL_law 1393 = .ok (.istore 7, 2) := qr1 (P := 1344) (o := 49) (op := 54) (v := 7) qLW21 (by decide +kernel) qo54
theorem dL_law_1395 : decode cL_law 1395 = .ok (.goto 546, 3) := qr2 (P := 1344) (o := 51) (op := 167) (v := 546) qLW21 (by decide +kernel) (fun h h2 => qo167 h (qs2 h2 (by decide +kernel)))
theorem dL_law_1398 : decode cL_law 1398 = .ok (.aload_n 1, 1) := qr0 (P := 1344) (o := 54) (op := 43) qLW21 (by decide +kernel) qo43
theorem dL_law_1399 : decode cL_law 1399 = .ok (.aload_n 0, 1) := qr0 (P := 1344) (o := 55) (op := 42) qLW21 (by decide +kernel) qo42
theorem dL_law_1400 : decode cL_law 1400 = .ok (.iload 5, 2) := qr1 (P := 1344) (o := 56) (op := 21) (v := 5) qLW21 (by decide +kernel) qo21
theorem dL_law_1402 : decode cL_law 1402 = .ok (.iconst 1, 1) := qr0 (P := 1344) (o := 58) (op := 4) qLW21 (by decide +kernel) qo4
theorem dL_law_1403 : decode cL_law 1403 = .ok (.iadd, 1) := qr0 (P := 1344) (o := 59) (op := 96) qLW21 (by decide +kernel) qo96
theorem dL_law_1404 : decode cL_law 1404 = .ok (.iaload, 1) := qr0 (P := 1344) (o := 60) (op := 46) qLW21 (by decide +kernel) qo46
theorem dL_law_1405 : decode cL_law 1405 = .ok (.aload_n 0, 1) := qr0 (P := 1344) (o := 61) (op := 42) qLW21 (by decide +kernel) qo42
theorem dL_law_1406 : decode cL_law 1406 = .ok (.iload 5, 2) := qr1 (P := 1344) (o := 62) (op := 21) (v := 5) qLW21 (by decide +kernel) qo21
theorem dL_law_1408 : decode cL_law 1408 = .ok (.iconst 2, 1) := qr0 (P := 1408) (o := 0) (op := 5) qLW22 (by decide +kernel) qo5
theorem dL_law_1409 : decode cL_law 1409 = .ok (.iadd, 1) := qr0 (P := 1408) (o := 1) (op := 96) qLW22 (by decide +kernel) qo96
theorem dL_law_1410 : decode cL_law 1410 = .ok (.iaload, 1) := qr0 (P := 1408) (o := 2) (op := 46) qLW22 (by decide +kernel) qo46
theorem dL_law_1411 : decode cL_law 1411 = .ok (.aload_n 3, 1) := qr0 (P := 1408) (o := 3) (op := 45) qLW22 (by decide +kernel) qo45
theorem dL_law_1412 : decode cL_law 1412 = .ok (.invokestatic 252, 3) := qr2 (P := 1408) (o := 4) (op := 184) (v := 252) qLW22 (by decide +kernel) qo184
theorem dL_law_1415 : decode cL_law 1415 = .ok (.istore 6, 2) := qr1 (P := 1408) (o := 7) (op := 54) (v := 6) qLW22 (by decide +kernel) qo54
theorem dL_law_1417 : decode cL_law 1417 = .ok (.aload_n 2, 1) := qr0 (P := 1408) (o := 9) (op := 44) qLW22 (by decide +kernel) qo44
theorem dL_law_1418 : decode cL_law 1418 = .ok (.aload_n 0, 1) := qr0 (P := 1408) (o := 10) (op := 42) qLW22 (by decide +kernel) qo42
theorem dL_law_1419 : decode cL_law 1419 = .ok (.iload 5, 2) := qr1 (P := 1408) (o := 11) (op := 21) (v := 5) qLW22 (by decide +kernel) qo21
theorem dL_law_1421 : decode cL_law 1421 = .ok (.iconst 1, 1) := qr0 (P := 1408) (o := 13) (op := 4) qLW22 (by decide +kernel) qo4
theorem dL_law_1422 : decode cL_law 1422 = .ok (.iadd, 1) := qr0 (P := 1408) (o := 14) (op := 96) qLW22 (by decide +kernel) qo96
theorem dL_law_1423 : decode cL_law 1423 = .ok (.iaload, 1) := qr0 (P := 1408) (o := 15) (op := 46) qLW22 (by decide +kernel) qo46
theorem dL_law_1424 : decode cL_law 1424 = .ok (.aload_n 0, 1) := qr0 (P := 1408) (o := 16) (op := 42) qLW22 (by decide +kernel) qo42
theorem dL_law_1425 : decode cL_law 1425 = .ok (.iload 5, 2) := qr1 (P := 1408) (o := 17) (op := 21) (v := 5) qLW22 (by decide +kernel) qo21
theorem dL_law_1427 : decode cL_law 1427 = .ok (.iconst 2, 1) := qr0 (P := 1408) (o := 19) (op := 5) qLW22 (by decide +kernel) qo5
theorem dL_law_1428 : decode cL_law 1428 = .ok (.iadd, 1) := qr0 (P := 1408) (o := 20) (op := 96) qLW22 (by decide +kernel) qo96
theorem dL_law_1429 : decode cL_law 1429 = .ok (.iaload, 1) := qr0 (P := 1408) (o := 21) (op := 46) qLW22 (by decide +kernel) qo46
theorem dL_law_1430 : decode cL_law 1430 = .ok (.invokevirtual 254, 3) := qr2 (P := 1408) (o := 22) (op := 182) (v := 254) qLW22 (by decide +kernel) qo182
theorem dL_law_1433 : decode cL_law 1433 = .ok (.istore 7, 2) := qr1 (P := 1408) (o := 25) (op := 54) (v := 7) qLW22 (by decide +kernel) qo54
theorem dL_law_1435 : decode cL_law 1435 = .ok (.goto 506, 3) := qr2 (P := 1408) (o := 27) (op := 167) (v := 506) qLW22 (by decide +kernel) (fun h h2 => qo167 h (qs2 h2 (by decide +kernel)))
theorem dL_law_1438 : decode cL_law 1438 = .ok (.aload_n 1, 1) := qr0 (P := 1408) (o := 30) (op := 43) qLW22 (by decide +kernel) qo43
theorem dL_law_1439 : decode cL_law 1439 = .ok (.aload_n 0, 1) := qr0 (P := 1408) (o := 31) (op := 42) qLW22 (by decide +kernel) qo42
theorem dL_law_1440 : decode cL_law 1440 = .ok (.iload 5, 2) := qr1 (P := 1408) (o := 32) (op := 21) (v := 5) qLW22 (by decide +kernel) qo21
theorem dL_law_1442 : decode cL_law 1442 = .ok (.iconst 1, 1) := qr0 (P := 1408) (o := 34) (op := 4) qLW22 (by decide +kernel) qo4
theorem dL_law_1443 : decode cL_law 1443 = .ok (.iadd, 1) := qr0 (P := 1408) (o := 35) (op := 96) qLW22 (by decide +kernel) qo96
theorem dL_law_1444 : decode cL_law 1444 = .ok (.iaload, 1) := qr0 (P := 1408) (o := 36) (op := 46) qLW22 (by decide +kernel) qo46
theorem dL_law_1445 : decode cL_law 1445 = .ok (.aload_n 0, 1) := qr0 (P := 1408) (o := 37) (op := 42) qLW22 (by decide +kernel) qo42
theorem dL_law_1446 : decode cL_law 1446 = .ok (.iload 5, 2) := qr1 (P := 1408) (o := 38) (op := 21) (v := 5) qLW22 (by decide +kernel) qo21
theorem dL_law_1448 : decode cL_law 1448 = .ok (.iconst 2, 1) := qr0 (P := 1408) (o := 40) (op := 5) qLW22 (by decide +kernel) qo5
theorem dL_law_1449 : decode cL_law 1449 = .ok (.iadd, 1) := qr0 (P := 1408) (o := 41) (op := 96) qLW22 (by decide +kernel) qo96
theorem dL_law_1450 : decode cL_law 1450 = .ok (.iaload, 1) := qr0 (P := 1408) (o := 42) (op := 46) qLW22 (by decide +kernel) qo46
theorem dL_law_1451 : decode cL_law 1451 = .ok (.aload_n 3, 1) := qr0 (P := 1408) (o := 43) (op := 45) qLW22 (by decide +kernel) qo45
theorem dL_law_1452 : decode cL_law 1452 = .ok (.invokestatic 255, 3) := qr2 (P := 1408) (o := 44) (op := 184) (v := 255) qLW22 (by decide +kernel) qo184
theorem dL_law_1455 : decode cL_law 1455 = .ok (.istore 6, 2) := qr1 (P := 1408) (o := 47) (op := 54) (v := 6) qLW22 (by decide +kernel) qo54
theorem dL_law_1457 : decode cL_law 1457 = .ok (.aload_n 2, 1) := qr0 (P := 1408) (o := 49) (op := 44) qLW22 (by decide +kernel) qo44
theorem dL_law_1458 : decode cL_law 1458 = .ok (.aload_n 0, 1) := qr0 (P := 1408) (o := 50) (op := 42) qLW22 (by decide +kernel) qo42
theorem dL_law_1459 : decode cL_law 1459 = .ok (.iload 5, 2) := qr1 (P := 1408) (o := 51) (op := 21) (v := 5) qLW22 (by decide +kernel) qo21
theorem dL_law_1461 : decode cL_law 1461 = .ok (.iconst 1, 1) := qr0 (P := 1408) (o := 53) (op := 4) qLW22 (by decide +kernel) qo4
theorem dL_law_1462 : decode cL_law 1462 = .ok (.iadd, 1) := qr0 (P := 1408) (o := 54) (op := 96) qLW22 (by decide +kernel) qo96
theorem dL_law_1463 : decode cL_law 1463 = .ok (.iaload, 1) := qr0 (P := 1408) (o := 55) (op := 46) qLW22 (by decide +kernel) qo46
theorem dL_law_1464 : decode cL_law 1464 = .ok (.aload_n 0, 1) := qr0 (P := 1408) (o := 56) (op := 42) qLW22 (by decide +kernel) qo42
theorem dL_law_1465 : decode cL_law 1465 = .ok (.iload 5, 2) := qr1 (P := 1408) (o := 57) (op := 21) (v := 5) qLW22 (by decide +kernel) qo21
theorem dL_law_1467 : decode cL_law 1467 = .ok (.iconst 2, 1) := qr0 (P := 1408) (o := 59) (op := 5) qLW22 (by decide +kernel) qo5
theorem dL_law_1468 : decode cL_law 1468 = .ok (.iadd, 1) := qr0 (P := 1408) (o := 60) (op := 96) qLW22 (by decide +kernel) qo96
theorem dL_law_1469 : decode cL_law 1469 = .ok (.iaload, 1) := qr0 (P := 1408) (o := 61) (op := 46) qLW22 (by decide +kernel) qo46
theorem dL_law_1470 : decode cL_law 1470 = .ok (.invokevirtual 257, 3) := qr2 (P := 1408) (o := 62) (op := 182) (v := 257) qLW22 (by decide +kernel) qo182
theorem dL_law_1473 : decode cL_law 1473 = .ok (.istore 7, 2) := qr1 (P := 1472) (o := 1) (op := 54) (v := 7) qLW23 (by decide +kernel) qo54
theorem dL_law_1475 : decode cL_law 1475 = .ok (.goto 466, 3) := qr2 (P := 1472) (o := 3) (op := 167) (v := 466) qLW23 (by decide +kernel) (fun h h2 => qo167 h (qs2 h2 (by decide +kernel)))
theorem dL_law_1478 : decode cL_law 1478 = .ok (.aload_n 1, 1) := qr0 (P := 1472) (o := 6) (op := 43) qLW23 (by decide +kernel) qo43
theorem dL_law_1479 : decode cL_law 1479 = .ok (.aload_n 0, 1) := qr0 (P := 1472) (o := 7) (op := 42) qLW23 (by decide +kernel) qo42
theorem dL_law_1480 : decode cL_law 1480 = .ok (.iload 5, 2) := qr1 (P := 1472) (o := 8) (op := 21) (v := 5) qLW23 (by decide +kernel) qo21
theorem dL_law_1482 : decode cL_law 1482 = .ok (.iconst 1, 1) := qr0 (P := 1472) (o := 10) (op := 4) qLW23 (by decide +kernel) qo4
theorem dL_law_1483 : decode cL_law 1483 = .ok (.iadd, 1) := qr0 (P := 1472) (o := 11) (op := 96) qLW23 (by decide +kernel) qo96
theorem dL_law_1484 : decode cL_law 1484 = .ok (.iaload, 1) := qr0 (P := 1472) (o := 12) (op := 46) qLW23 (by decide +kernel) qo46
theorem dL_law_1485 : decode cL_law 1485 = .ok (.aload_n 0, 1) := qr0 (P := 1472) (o := 13) (op := 42) qLW23 (by decide +kernel) qo42
theorem dL_law_1486 : decode cL_law 1486 = .ok (.iload 5, 2) := qr1 (P := 1472) (o := 14) (op := 21) (v := 5) qLW23 (by decide +kernel) qo21
theorem dL_law_1488 : decode cL_law 1488 = .ok (.iconst 2, 1) := qr0 (P := 1472) (o := 16) (op := 5) qLW23 (by decide +kernel) qo5
theorem dL_law_1489 : decode cL_law 1489 = .ok (.iadd, 1) := qr0 (P := 1472) (o := 17) (op := 96) qLW23 (by decide +kernel) qo96
theorem dL_law_1490 : decode cL_law 1490 = .ok (.iaload, 1) := qr0 (P := 1472) (o := 18) (op := 46) qLW23 (by decide +kernel) qo46
theorem dL_law_1491 : decode cL_law 1491 = .ok (.aload_n 0, 1) := qr0 (P := 1472) (o := 19) (op := 42) qLW23 (by decide +kernel) qo42
theorem dL_law_1492 : decode cL_law 1492 = .ok (.iload 5, 2) := qr1 (P := 1472) (o := 20) (op := 21) (v := 5) qLW23 (by decide +kernel) qo21
theorem dL_law_1494 : decode cL_law 1494 = .ok (.iconst 3, 1) := qr0 (P := 1472) (o := 22) (op := 6) qLW23 (by decide +kernel) qo6
theorem dL_law_1495 : decode cL_law 1495 = .ok (.iadd, 1) := qr0 (P := 1472) (o := 23) (op := 96) qLW23 (by decide +kernel) qo96
theorem dL_law_1496 : decode cL_law 1496 = .ok (.iaload, 1) := qr0 (P := 1472) (o := 24) (op := 46) qLW23 (by decide +kernel) qo46
theorem dL_law_1497 : decode cL_law 1497 = .ok (.ifCond .eq 7, 3) := qr2 (P := 1472) (o := 25) (op := 153) (v := 7) qLW23 (by decide +kernel) (fun h h2 => qo153 h (qs2 h2 (by decide +kernel)))
theorem dL_law_1500 : decode cL_law 1500 = .ok (.iconst 1, 1) := qr0 (P := 1472) (o := 28) (op := 4) qLW23 (by decide +kernel) qo4
theorem dL_law_1501 : decode cL_law 1501 = .ok (.goto 4, 3) := qr2 (P := 1472) (o := 29) (op := 167) (v := 4) qLW23 (by decide +kernel) (fun h h2 => qo167 h (qs2 h2 (by decide +kernel)))
theorem dL_law_1504 : decode cL_law 1504 = .ok (.iconst 0, 1) := qr0 (P := 1472) (o := 32) (op := 3) qLW23 (by decide +kernel) qo3
theorem dL_law_1505 : decode cL_law 1505 = .ok (.aload_n 3, 1) := qr0 (P := 1472) (o := 33) (op := 45) qLW23 (by decide +kernel) qo45
theorem dL_law_1506 : decode cL_law 1506 = .ok (.invokestatic 258, 3) := qr2 (P := 1472) (o := 34) (op := 184) (v := 258) qLW23 (by decide +kernel) qo184
theorem dL_law_1509 : decode cL_law 1509 = .ok (.istore 6, 2) := qr1 (P := 1472) (o := 37) (op := 54) (v := 6) qLW23 (by decide +kernel) qo54
theorem dL_law_1511 : decode cL_law 1511 = .ok (.aload_n 2, 1) := qr0 (P := 1472) (o := 39) (op := 44) qLW23 (by decide +kernel) qo44
theorem dL_law_1512 : decode cL_law 1512 = .ok (.aload_n 0, 1) := qr0 (P := 1472) (o := 40) (op := 42) qLW23 (by decide +kernel) qo42
theorem dL_law_1513 : decode cL_law 1513 = .ok (.iload 5, 2) := qr1 (P := 1472) (o := 41) (op := 21) (v := 5) qLW23 (by decide +kernel) qo21
theorem dL_law_1515 : decode cL_law 1515 = .ok (.iconst 1, 1) := qr0 (P := 1472) (o := 43) (op := 4) qLW23 (by decide +kernel) qo4
theorem dL_law_1516 : decode cL_law 1516 = .ok (.iadd, 1) := qr0 (P := 1472) (o := 44) (op := 96) qLW23 (by decide +kernel) qo96
theorem dL_law_1517 : decode cL_law 1517 = .ok (.iaload, 1) := qr0 (P := 1472) (o := 45) (op := 46) qLW23 (by decide +kernel) qo46
theorem dL_law_1518 : decode cL_law 1518 = .ok (.aload_n 0, 1) := qr0 (P := 1472) (o := 46) (op := 42) qLW23 (by decide +kernel) qo42
theorem dL_law_1519 : decode cL_law 1519 = .ok (.iload 5, 2) := qr1 (P := 1472) (o := 47) (op := 21) (v := 5) qLW23 (by decide +kernel) qo21
theorem dL_law_1521 : decode cL_law 1521 = .ok (.iconst 2, 1) := qr0 (P := 1472) (o := 49) (op := 5) qLW23 (by decide +kernel) qo5
theorem dL_law_1522 : decode cL_law 1522 = .ok (.iadd, 1) := qr0 (P := 1472) (o := 50) (op := 96) qLW23 (by decide +kernel) qo96
theorem dL_law_1523 : decode cL_law 1523 = .ok (.iaload, 1) := qr0 (P := 1472) (o := 51) (op := 46) qLW23 (by decide +kernel) qo46
theorem dL_law_1524 : decode cL_law 1524 = .ok (.aload_n 0, 1) := qr0 (P := 1472) (o := 52) (op := 42) qLW23 (by decide +kernel) qo42
theorem dL_law_1525 : decode cL_law 1525 = .ok (.iload 5, 2) := qr1 (P := 1472) (o := 53) (op := 21) (v := 5) qLW23 (by decide +kernel) qo21
theorem dL_law_1527 : decode cL_law 1527 = .ok (.iconst 3, 1) := qr0 (P := 1472) (o := 55) (op := 6) qLW23 (by decide +kernel) qo6
theorem dL_law_1528 : decode cL_law 1528 = .ok (.iadd, 1) := qr0 (P := 1472) (o := 56) (op := 96) qLW23 (by decide +kernel) qo96
theorem dL_law_1529 : decode cL_law 1529 = .ok (.iaload, 1) := qr0 (P := 1472) (o := 57) (op := 46) qLW23 (by decide +kernel) qo46
theorem dL_law_1530 : decode cL_law 1530 = .ok (.ifCond .eq 7, 3) := qr2 (P := 1472) (o := 58) (op := 153) (v := 7) qLW23 (by decide +kernel) (fun h h2 => qo153 h (qs2 h2 (by decide +kernel)))
theorem dL_law_1533 : decode cL_law 1533 = .ok (.iconst 1, 1) := qr0 (P := 1472) (o := 61) (op := 4) qLW23 (by decide +kernel) qo4
theorem dL_law_1534 : decode cL_law 1534 = .ok (.goto 4, 3) := qr2 (P := 1472) (o := 62) (op := 167) (v := 4) qLW23 (by decide +kernel) (fun h h2 => qo167 h (qs2 h2 (by decide +kernel)))
theorem dL_law_1537 : decode cL_law 1537 = .ok (.iconst 0, 1) := qr0 (P := 1536) (o := 1) (op := 3) qLW24 (by decide +kernel) qo3
theorem dL_law_1538 : decode cL_law 1538 = .ok (.invokevirtual 261, 3) := qr2 (P := 1536) (o := 2) (op := 182) (v := 261) qLW24 (by decide +kernel) qo182
theorem dL_law_1541 : decode cL_law 1541 = .ok (.lstore 7, 2) := qr1 (P := 1536) (o := 5) (op := 55) (v := 7) qLW24 (by decide +kernel) qo55
theorem dL_law_1543 : decode cL_law 1543 = .ok (.goto 398, 3) := qr2 (P := 1536) (o := 7) (op := 167) (v := 398) qLW24 (by decide +kernel) (fun h h2 => qo167 h (qs2 h2 (by decide +kernel)))
theorem dL_law_1546 : decode cL_law 1546 = .ok (.aload_n 1, 1) := qr0 (P := 1536) (o := 10) (op := 43) qLW24 (by decide +kernel) qo43
theorem dL_law_1547 : decode cL_law 1547 = .ok (.aload_n 0, 1) := qr0 (P := 1536) (o := 11) (op := 42) qLW24 (by decide +kernel) qo42
theorem dL_law_1548 : decode cL_law 1548 = .ok (.iload 5, 2) := qr1 (P := 1536) (o := 12) (op := 21) (v := 5) qLW24 (by decide +kernel) qo21
theorem dL_law_1550 : decode cL_law 1550 = .ok (.iconst 1, 1) := qr0 (P := 1536) (o := 14) (op := 4) qLW24 (by decide +kernel) qo4
theorem dL_law_1551 : decode cL_law 1551 = .ok (.iadd, 1) := qr0 (P := 1536) (o := 15) (op := 96) qLW24 (by decide +kernel) qo96
theorem dL_law_1552 : decode cL_law 1552 = .ok (.iaload, 1) := qr0 (P := 1536) (o := 16) (op := 46) qLW24 (by decide +kernel) qo46
theorem dL_law_1553 : decode cL_law 1553 = .ok (.aload_n 0, 1) := qr0 (P := 1536) (o := 17) (op := 42) qLW24 (by decide +kernel) qo42
theorem dL_law_1554 : decode cL_law 1554 = .ok (.iload 5, 2) := qr1 (P := 1536) (o := 18) (op := 21) (v := 5) qLW24 (by decide +kernel) qo21
theorem dL_law_1556 : decode cL_law 1556 = .ok (.iconst 2, 1) := qr0 (P := 1536) (o := 20) (op := 5) qLW24 (by decide +kernel) qo5
theorem dL_law_1557 : decode cL_law 1557 = .ok (.iadd, 1) := qr0 (P := 1536) (o := 21) (op := 96) qLW24 (by decide +kernel) qo96
theorem dL_law_1558 : decode cL_law 1558 = .ok (.iaload, 1) := qr0 (P := 1536) (o := 22) (op := 46) qLW24 (by decide +kernel) qo46
theorem dL_law_1559 : decode cL_law 1559 = .ok (.aload_n 0, 1) := qr0 (P := 1536) (o := 23) (op := 42) qLW24 (by decide +kernel) qo42
theorem dL_law_1560 : decode cL_law 1560 = .ok (.iload 5, 2) := qr1 (P := 1536) (o := 24) (op := 21) (v := 5) qLW24 (by decide +kernel) qo21
theorem dL_law_1562 : decode cL_law 1562 = .ok (.iconst 3, 1) := qr0 (P := 1536) (o := 26) (op := 6) qLW24 (by decide +kernel) qo6
theorem dL_law_1563 : decode cL_law 1563 = .ok (.iadd, 1) := qr0 (P := 1536) (o := 27) (op := 96) qLW24 (by decide +kernel) qo96
theorem dL_law_1564 : decode cL_law 1564 = .ok (.iaload, 1) := qr0 (P := 1536) (o := 28) (op := 46) qLW24 (by decide +kernel) qo46
theorem dL_law_1565 : decode cL_law 1565 = .ok (.aload_n 0, 1) := qr0 (P := 1536) (o := 29) (op := 42) qLW24 (by decide +kernel) qo42
theorem dL_law_1566 : decode cL_law 1566 = .ok (.iload 5, 2) := qr1 (P := 1536) (o := 30) (op := 21) (v := 5) qLW24 (by decide +kernel) qo21
theorem dL_law_1568 : decode cL_law 1568 = .ok (.iconst 4, 1) := qr0 (P := 1536) (o := 32) (op := 7) qLW24 (by decide +kernel) qo7
theorem dL_law_1569 : decode cL_law 1569 = .ok (.iadd, 1) := qr0 (P := 1536) (o := 33) (op := 96) qLW24 (by decide +kernel) qo96
theorem dL_law_1570 : decode cL_law 1570 = .ok (.iaload, 1) := qr0 (P := 1536) (o := 34) (op := 46) qLW24 (by decide +kernel) qo46
theorem dL_law_1571 : decode cL_law 1571 = .ok (.ifCond .eq 7, 3) := qr2 (P := 1536) (o := 35) (op := 153) (v := 7) qLW24 (by decide +kernel) (fun h h2 => qo153 h (qs2 h2 (by decide +kernel)))
theorem dL_law_1574 : decode cL_law 1574 = .ok (.iconst 1, 1) := qr0 (P := 1536) (o := 38) (op := 4) qLW24 (by decide +kernel) qo4
theorem dL_law_1575 : decode cL_law 1575 = .ok (.goto 4, 3) := qr2 (P := 1536) (o := 39) (op := 167) (v := 4) qLW24 (by decide +kernel) (fun h h2 => qo167 h (qs2 h2 (by decide +kernel)))
theorem dL_law_1578 : decode cL_law 1578 = .ok (.iconst 0, 1) := qr0 (P := 1536) (o := 42) (op := 3) qLW24 (by decide +kernel) qo3
theorem dL_law_1579 : decode cL_law 1579 = .ok (.aload_n 3, 1) := qr0 (P := 1536) (o := 43) (op := 45) qLW24 (by decide +kernel) qo45
theorem dL_law_1580 : decode cL_law 1580 = .ok (.invokestatic 262, 3) := qr2 (P := 1536) (o := 44) (op := 184) (v := 262) qLW24 (by decide +kernel) qo184
theorem dL_law_1583 : decode cL_law 1583 = .ok (.istore 6, 2) := qr1 (P := 1536) (o := 47) (op := 54) (v := 6) qLW24 (by decide +kernel) qo54
theorem dL_law_1585 : decode cL_law 1585 = .ok (.aload_n 2, 1) := qr0 (P := 1536) (o := 49) (op := 44) qLW24 (by decide +kernel) qo44
theorem dL_law_1586 : decode cL_law 1586 = .ok (.aload_n 0, 1) := qr0 (P := 1536) (o := 50) (op := 42) qLW24 (by decide +kernel) qo42
theorem dL_law_1587 : decode cL_law 1587 = .ok (.iload 5, 2) := qr1 (P := 1536) (o := 51) (op := 21) (v := 5) qLW24 (by decide +kernel) qo21
theorem dL_law_1589 : decode cL_law 1589 = .ok (.iconst 1, 1) := qr0 (P := 1536) (o := 53) (op := 4) qLW24 (by decide +kernel) qo4
theorem dL_law_1590 : decode cL_law 1590 = .ok (.iadd, 1) := qr0 (P := 1536) (o := 54) (op := 96) qLW24 (by decide +kernel) qo96
theorem dL_law_1591 : decode cL_law 1591 = .ok (.iaload, 1) := qr0 (P := 1536) (o := 55) (op := 46) qLW24 (by decide +kernel) qo46
theorem dL_law_1592 : decode cL_law 1592 = .ok (.aload_n 0, 1) := qr0 (P := 1536) (o := 56) (op := 42) qLW24 (by decide +kernel) qo42
theorem dL_law_1593 : decode cL_law 1593 = .ok (.iload 5, 2) := qr1 (P := 1536) (o := 57) (op := 21) (v := 5) qLW24 (by decide +kernel) qo21
theorem dL_law_1595 : decode cL_law 1595 = .ok (.iconst 2, 1) := qr0 (P := 1536) (o := 59) (op := 5) qLW24 (by decide +kernel) qo5
theorem dL_law_1596 : decode cL_law 1596 = .ok (.iadd, 1) := qr0 (P := 1536) (o := 60) (op := 96) qLW24 (by decide +kernel) qo96
theorem dL_law_1597 : decode cL_law 1597 = .ok (.iaload, 1) := qr0 (P := 1536) (o := 61) (op := 46) qLW24 (by decide +kernel) qo46
theorem dL_law_1598 : decode cL_law 1598 = .ok (.aload_n 0, 1) := qr0 (P := 1536) (o := 62) (op := 42) qLW24 (by decide +kernel) qo42
theorem dL_law_1599 : decode cL_law 1599 = .ok (.iload 5, 2) := qr1 (P := 1536) (o := 63) (op := 21) (v := 5) qLW24 (by decide +kernel) qo21
theorem dL_law_1601 : decode cL_law 1601 = .ok (.iconst 3, 1) := qr0 (P := 1600) (o := 1) (op := 6) qLW25 (by decide +kernel) qo6
theorem dL_law_1602 : decode cL_law 1602 = .ok (.iadd, 1) := qr0 (P := 1600) (o := 2) (op := 96) qLW25 (by decide +kernel) qo96
theorem dL_law_1603 : decode cL_law 1603 = .ok (.iaload, 1) := qr0 (P := 1600) (o := 3) (op := 46) qLW25 (by decide +kernel) qo46
theorem dL_law_1604 : decode cL_law 1604 = .ok (.aload_n 0, 1) := qr0 (P := 1600) (o := 4) (op := 42) qLW25 (by decide +kernel) qo42
theorem dL_law_1605 : decode cL_law 1605 = .ok (.iload 5, 2) := qr1 (P := 1600) (o := 5) (op := 21) (v := 5) qLW25 (by decide +kernel) qo21
theorem dL_law_1607 : decode cL_law 1607 = .ok (.iconst 4, 1) := qr0 (P := 1600) (o := 7) (op := 7) qLW25 (by decide +kernel) qo7
theorem dL_law_1608 : decode cL_law 1608 = .ok (.iadd, 1) := qr0 (P := 1600) (o := 8) (op := 96) qLW25 (by decide +kernel) qo96
theorem dL_law_1609 : decode cL_law 1609 = .ok (.iaload, 1) := qr0 (P := 1600) (o := 9) (op := 46) qLW25 (by decide +kernel) qo46
theorem dL_law_1610 : decode cL_law 1610 = .ok (.ifCond .eq 7, 3) := qr2 (P := 1600) (o := 10) (op := 153) (v := 7) qLW25 (by decide +kernel) (fun h h2 => qo153 h (qs2 h2 (by decide +kernel)))
theorem dL_law_1613 : decode cL_law 1613 = .ok (.iconst 1, 1) := qr0 (P := 1600) (o := 13) (op := 4) qLW25 (by decide +kernel) qo4
theorem dL_law_1614 : decode cL_law 1614 = .ok (.goto 4, 3) := qr2 (P := 1600) (o := 14) (op := 167) (v := 4) qLW25 (by decide +kernel) (fun h h2 => qo167 h (qs2 h2 (by decide +kernel)))
theorem dL_law_1617 : decode cL_law 1617 = .ok (.iconst 0, 1) := qr0 (P := 1600) (o := 17) (op := 3) qLW25 (by decide +kernel) qo3
theorem dL_law_1618 : decode cL_law 1618 = .ok (.invokevirtual 264, 3) := qr2 (P := 1600) (o := 18) (op := 182) (v := 264) qLW25 (by decide +kernel) qo182
theorem dL_law_1621 : decode cL_law 1621 = .ok (.istore 7, 2) := qr1 (P := 1600) (o := 21) (op := 54) (v := 7) qLW25 (by decide +kernel) qo54
theorem dL_law_1623 : decode cL_law 1623 = .ok (.goto 318, 3) := qr2 (P := 1600) (o := 23) (op := 167) (v := 318) qLW25 (by decide +kernel) (fun h h2 => qo167 h (qs2 h2 (by decide +kernel)))
theorem dL_law_1626 : decode cL_law 1626 = .ok (.aload_n 1, 1) := qr0 (P := 1600) (o := 26) (op := 43) qLW25 (by decide +kernel) qo43
theorem dL_law_1627 : decode cL_law 1627 = .ok (.aload_n 0, 1) := qr0 (P := 1600) (o := 27) (op := 42) qLW25 (by decide +kernel) qo42
theorem dL_law_1628 : decode cL_law 1628 = .ok (.iload 5, 2) := qr1 (P := 1600) (o := 28) (op := 21) (v := 5) qLW25 (by decide +kernel) qo21
theorem dL_law_1630 : decode cL_law 1630 = .ok (.iconst 1, 1) := qr0 (P := 1600) (o := 30) (op := 4) qLW25 (by decide +kernel) qo4
theorem dL_law_1631 : decode cL_law 1631 = .ok (.iadd, 1) := qr0 (P := 1600) (o := 31) (op := 96) qLW25 (by decide +kernel) qo96
theorem dL_law_1632 : decode cL_law 1632 = .ok (.iaload, 1) := qr0 (P := 1600) (o := 32) (op := 46) qLW25 (by decide +kernel) qo46
theorem dL_law_1633 : decode cL_law 1633 = .ok (.aload_n 0, 1) := qr0 (P := 1600) (o := 33) (op := 42) qLW25 (by decide +kernel) qo42
theorem dL_law_1634 : decode cL_law 1634 = .ok (.iload 5, 2) := qr1 (P := 1600) (o := 34) (op := 21) (v := 5) qLW25 (by decide +kernel) qo21
theorem dL_law_1636 : decode cL_law 1636 = .ok (.iconst 2, 1) := qr0 (P := 1600) (o := 36) (op := 5) qLW25 (by decide +kernel) qo5
theorem dL_law_1637 : decode cL_law 1637 = .ok (.iadd, 1) := qr0 (P := 1600) (o := 37) (op := 96) qLW25 (by decide +kernel) qo96
theorem dL_law_1638 : decode cL_law 1638 = .ok (.iaload, 1) := qr0 (P := 1600) (o := 38) (op := 46) qLW25 (by decide +kernel) qo46
theorem dL_law_1639 : decode cL_law 1639 = .ok (.aload_n 0, 1) := qr0 (P := 1600) (o := 39) (op := 42) qLW25 (by decide +kernel) qo42
theorem dL_law_1640 : decode cL_law 1640 = .ok (.iload 5, 2) := qr1 (P := 1600) (o := 40) (op := 21) (v := 5) qLW25 (by decide +kernel) qo21

theorem dL_law_1642 : decode cL_law 1642 = .ok (.iconst 3, 1) := qr0 (P := 1600) (o := 42) (op := 6) qLW25 (by decide +kernel) qo6
theorem dL_law_1643 : decode cL_law 1643 = .ok (.iadd, 1) := qr0 (P := 1600) (o := 43) (op := 96) qLW25 (by decide +kernel) qo96
theorem dL_law_1644 : decode cL_law 1644 = .ok (.iaload, 1) := qr0 (P := 1600) (o := 44) (op := 46) qLW25 (by decide +kernel) qo46
theorem dL_law_1645 : decode cL_law 1645 = .ok (.aload_n 0, 1) := qr0 (P := 1600) (o := 45) (op := 42) qLW25 (by decide +kernel) qo42
theorem dL_law_1646 : decode cL_law 1646 = .ok (.iload 5, 2) := qr1 (P := 1600) (o := 46) (op := 21) (v := 5) qLW25 (by decide +kernel) qo21
theorem dL_law_1648 : decode cL_law 1648 = .ok (.iconst 4, 1) := qr0 (P := 1600) (o := 48) (op := 7) qLW25 (by decide +kernel) qo7
theorem dL_law_1649 : decode cL_law 1649 = .ok (.iadd, 1) := qr0 (P := 1600) (o := 49) (op := 96) qLW25 (by decide +kernel) qo96
theorem dL_law_1650 : decode cL_law 1650 = .ok (.iaload, 1) := qr0 (P := 1600) (o := 50) (op := 46) qLW25 (by decide +kernel) qo46
theorem dL_law_1651 : decode cL_law 1651 = .ok (.aload_n 3, 1) := qr0 (P := 1600) (o := 51) (op := 45) qLW25 (by decide +kernel) qo45
theorem dL_law_1652 : decode cL_law 1652 = .ok (.invokestatic 265, 3) := qr2 (P := 1600) (o := 52) (op := 184) (v := 265) qLW25 (by decide +kernel) qo184
theorem dL_law_1655 : decode cL_law 1655 = .ok (.istore 6, 2) := qr1 (P := 1600) (o := 55) (op := 54) (v := 6) qLW25 (by decide +kernel) qo54
theorem dL_law_1657 : decode cL_law 1657 = .ok (.aload_n 2, 1) := qr0 (P := 1600) (o := 57) (op := 44) qLW25 (by decide +kernel) qo44
theorem dL_law_1658 : decode cL_law 1658 = .ok (.aload_n 0, 1) := qr0 (P := 1600) (o := 58) (op := 42) qLW25 (by decide +kernel) qo42
theorem dL_law_1659 : decode cL_law 1659 = .ok (.iload 5, 2) := qr1 (P := 1600) (o := 59) (op := 21) (v := 5) qLW25 (by decide +kernel) qo21
theorem dL_law_1661 : decode cL_law 1661 = .ok (.iconst 1, 1) := qr0 (P := 1600) (o := 61) (op := 4) qLW25 (by decide +kernel) qo4
theorem dL_law_1662 : decode cL_law 1662 = .ok (.iadd, 1) := qr0 (P := 1600) (o := 62) (op := 96) qLW25 (by decide +kernel) qo96
theorem dL_law_1663 : decode cL_law 1663 = .ok (.iaload, 1) := qr0 (P := 1600) (o := 63) (op := 46) qLW25 (by decide +kernel) qo46
theorem dL_law_1664 : decode cL_law 1664 = .ok (.aload_n 0, 1) := qr0 (P := 1664) (o := 0) (op := 42) qLW26 (by decide +kernel) qo42
theorem dL_law_1665 : decode cL_law 1665 = .ok (.iload 5, 2) := qr1 (P := 1664) (o := 1) (op := 21) (v := 5) qLW26 (by decide +kernel) qo21
theorem dL_law_1667 : decode cL_law 1667 = .ok (.iconst 2, 1) := qr0 (P := 1664) (o := 3) (op := 5) qLW26 (by decide +kernel) qo5
theorem dL_law_1668 : decode cL_law 1668 = .ok (.iadd, 1) := qr0 (P := 1664) (o := 4) (op := 96) qLW26 (by decide +kernel) qo96
theorem dL_law_1669 : decode cL_law 1669 = .ok (.iaload, 1) := qr0 (P := 1664) (o := 5) (op := 46) qLW26 (by decide +kernel) qo46
theorem dL_law_1670 : decode cL_law 1670 = .ok (.aload_n 0, 1) := qr0 (P := 1664) (o := 6) (op := 42) qLW26 (by decide +kernel) qo42
theorem dL_law_1671 : decode cL_law 1671 = .ok (.iload 5, 2) := qr1 (P := 1664) (o := 7) (op := 21) (v := 5) qLW26 (by decide +kernel) qo21
theorem dL_law_1673 : decode cL_law 1673 = .ok (.iconst 3, 1) := qr0 (P := 1664) (o := 9) (op := 6) qLW26 (by decide +kernel) qo6
theorem dL_law_1674 : decode cL_law 1674 = .ok (.iadd, 1) := qr0 (P := 1664) (o := 10) (op := 96) qLW26 (by decide +kernel) qo96
theorem dL_law_1675 : decode cL_law 1675 = .ok (.iaload, 1) := qr0 (P := 1664) (o := 11) (op := 46) qLW26 (by decide +kernel) qo46
theorem dL_law_1676 : decode cL_law 1676 = .ok (.aload_n 0, 1) := qr0 (P := 1664) (o := 12) (op := 42) qLW26 (by decide +kernel) qo42
theorem dL_law_1677 : decode cL_law 1677 = .ok (.iload 5, 2) := qr1 (P := 1664) (o := 13) (op := 21) (v := 5) qLW26 (by decide +kernel) qo21
theorem dL_law_1679 : decode cL_law 1679 = .ok (.iconst 4, 1) := qr0 (P := 1664) (o := 15) (op := 7) qLW26 (by decide +kernel) qo7
theorem dL_law_1680 : decode cL_law 1680 = .ok (.iadd, 1) := qr0 (P := 1664) (o := 16) (op := 96) qLW26 (by decide +kernel) qo96
theorem dL_law_1681 : decode cL_law 1681 = .ok (.iaload, 1) := qr0 (P := 1664) (o := 17) (op := 46) qLW26 (by decide +kernel) qo46
theorem dL_law_1682 : decode cL_law 1682 = .ok (.invokevirtual 268, 3) := qr2 (P := 1664) (o := 18) (op := 182) (v := 268) qLW26 (by decide +kernel) qo182
theorem dL_law_1685 : decode cL_law 1685 = .ok (.istore 7, 2) := qr1 (P := 1664) (o := 21) (op := 54) (v := 7) qLW26 (by decide +kernel) qo54
theorem dL_law_1687 : decode cL_law 1687 = .ok (.goto 254, 3) := qr2 (P := 1664) (o := 23) (op := 167) (v := 254) qLW26 (by decide +kernel) (fun h h2 => qo167 h (qs2 h2 (by decide +kernel)))
theorem dL_law_1690 : decode cL_law 1690 = .ok (.aload_n 1, 1) := qr0 (P := 1664) (o := 26) (op := 43) qLW26 (by decide +kernel) qo43
theorem dL_law_1691 : decode cL_law 1691 = .ok (.aload_n 0, 1) := qr0 (P := 1664) (o := 27) (op := 42) qLW26 (by decide +kernel) qo42
theorem dL_law_1692 : decode cL_law 1692 = .ok (.iload 5, 2) := qr1 (P := 1664) (o := 28) (op := 21) (v := 5) qLW26 (by decide +kernel) qo21
theorem dL_law_1694 : decode cL_law 1694 = .ok (.iconst 1, 1) := qr0 (P := 1664) (o := 30) (op := 4) qLW26 (by decide +kernel) qo4
theorem dL_law_1695 : decode cL_law 1695 = .ok (.iadd, 1) := qr0 (P := 1664) (o := 31) (op := 96) qLW26 (by decide +kernel) qo96
theorem dL_law_1696 : decode cL_law 1696 = .ok (.iaload, 1) := qr0 (P := 1664) (o := 32) (op := 46) qLW26 (by decide +kernel) qo46
theorem dL_law_1697 : decode cL_law 1697 = .ok (.aload_n 3, 1) := qr0 (P := 1664) (o := 33) (op := 45) qLW26 (by decide +kernel) qo45
theorem dL_law_1698 : decode cL_law 1698 = .ok (.invokestatic 269, 3) := qr2 (P := 1664) (o := 34) (op := 184) (v := 269) qLW26 (by decide +kernel) qo184
theorem dL_law_1701 : decode cL_law 1701 = .ok (.istore 6, 2) := qr1 (P := 1664) (o := 37) (op := 54) (v := 6) qLW26 (by decide +kernel) qo54
theorem dL_law_1703 : decode cL_law 1703 = .ok (.aload_n 2, 1) := qr0 (P := 1664) (o := 39) (op := 44) qLW26 (by decide +kernel) qo44
theorem dL_law_1704 : decode cL_law 1704 = .ok (.aload_n 0, 1) := qr0 (P := 1664) (o := 40) (op := 42) qLW26 (by decide +kernel) qo42
theorem dL_law_1705 : decode cL_law 1705 = .ok (.iload 5, 2) := qr1 (P := 1664) (o := 41) (op := 21) (v := 5) qLW26 (by decide +kernel) qo21
theorem dL_law_1707 : decode cL_law 1707 = .ok (.iconst 1, 1) := qr0 (P := 1664) (o := 43) (op := 4) qLW26 (by decide +kernel) qo4
theorem dL_law_1708 : decode cL_law 1708 = .ok (.iadd, 1) := qr0 (P := 1664) (o := 44) (op := 96) qLW26 (by decide +kernel) qo96
theorem dL_law_1709 : decode cL_law 1709 = .ok (.iaload, 1) := qr0 (P := 1664) (o := 45) (op := 46) qLW26 (by decide +kernel) qo46
theorem dL_law_1710 : decode cL_law 1710 = .ok (.invokevirtual 271, 3) := qr2 (P := 1664) (o := 46) (op := 182) (v := 271) qLW26 (by decide +kernel) qo182
theorem dL_law_1713 : decode cL_law 1713 = .ok (.istore 7, 2) := qr1 (P := 1664) (o := 49) (op := 54) (v := 7) qLW26 (by decide +kernel) qo54
theorem dL_law_1715 : decode cL_law 1715 = .ok (.goto 226, 3) := qr2 (P := 1664) (o := 51) (op := 167) (v := 226) qLW26 (by decide +kernel) (fun h h2 => qo167 h (qs2 h2 (by decide +kernel)))
theorem dL_law_1718 : decode cL_law 1718 = .ok (.aload_n 1, 1) := qr0 (P := 1664) (o := 54) (op := 43) qLW26 (by decide +kernel) qo43
theorem dL_law_1719 : decode cL_law 1719 = .ok (.aload_n 0, 1) := qr0 (P := 1664) (o := 55) (op := 42) qLW26 (by decide +kernel) qo42
theorem dL_law_1720 : decode cL_law 1720 = .ok (.iload 5, 2) := qr1 (P := 1664) (o := 56) (op := 21) (v := 5) qLW26 (by decide +kernel) qo21
theorem dL_law_1722 : decode cL_law 1722 = .ok (.iconst 1, 1) := qr0 (P := 1664) (o := 58) (op := 4) qLW26 (by decide +kernel) qo4
theorem dL_law_1723 : decode cL_law 1723 = .ok (.iadd, 1) := qr0 (P := 1664) (o := 59) (op := 96) qLW26 (by decide +kernel) qo96
theorem dL_law_1724 : decode cL_law 1724 = .ok (.iaload, 1) := qr0 (P := 1664) (o := 60) (op := 46) qLW26 (by decide +kernel) qo46
theorem dL_law_1725 : decode cL_law 1725 = .ok (.aload 4, 2) := qr1 (P := 1664) (o := 61) (op := 25) (v := 4) qLW26 (by decide +kernel) qo25
theorem dL_law_1727 : decode cL_law 1727 = .ok (.invokestatic 272, 3) := qr2 (P := 1664) (o := 63) (op := 184) (v := 272) qLW26 (by decide +kernel) qo184
theorem dL_law_1730 : decode cL_law 1730 = .ok (.istore 6, 2) := qr1 (P := 1728) (o := 2) (op := 54) (v := 6) qLW27 (by decide +kernel) qo54
theorem dL_law_1732 : decode cL_law 1732 = .ok (.aload_n 2, 1) := qr0 (P := 1728) (o := 4) (op := 44) qLW27 (by decide +kernel) qo44
theorem dL_law_1733 : decode cL_law 1733 = .ok (.aload_n 0, 1) := qr0 (P := 1728) (o := 5) (op := 42) qLW27 (by decide +kernel) qo42
theorem dL_law_1734 : decode cL_law 1734 = .ok (.iload 5, 2) := qr1 (P := 1728) (o := 6) (op := 21) (v := 5) qLW27 (by decide +kernel) qo21
theorem dL_law_1736 : decode cL_law 1736 = .ok (.iconst 1, 1) := qr0 (P := 1728) (o := 8) (op := 4) qLW27 (by decide +kernel) qo4
theorem dL_law_1737 : decode cL_law 1737 = .ok (.iadd, 1) := qr0 (P := 1728) (o := 9) (op := 96) qLW27 (by decide +kernel) qo96
theorem dL_law_1738 : decode cL_law 1738 = .ok (.iaload, 1) := qr0 (P := 1728) (o := 10) (op := 46) qLW27 (by decide +kernel) qo46
theorem dL_law_1739 : decode cL_law 1739 = .ok (.invokevirtual 275, 3) := qr2 (P := 1728) (o := 11) (op := 182) (v := 275) qLW27 (by decide +kernel) qo182
theorem dL_law_1742 : decode cL_law 1742 = .ok (.dstore 7, 2) := qr1 (P := 1728) (o := 14) (op := 57) (v := 7) qLW27 (by decide +kernel) qo57
theorem dL_law_1744 : decode cL_law 1744 = .ok (.goto 197, 3) := qr2 (P := 1728) (o := 16) (op := 167) (v := 197) qLW27 (by decide +kernel) (fun h h2 => qo167 h (qs2 h2 (by decide +kernel)))
theorem dL_law_1747 : decode cL_law 1747 = .ok (.aload_n 1, 1) := qr0 (P := 1728) (o := 19) (op := 43) qLW27 (by decide +kernel) qo43
theorem dL_law_1748 : decode cL_law 1748 = .ok (.aload_n 0, 1) := qr0 (P := 1728) (o := 20) (op := 42) qLW27 (by decide +kernel) qo42
theorem dL_law_1749 : decode cL_law 1749 = .ok (.iload 5, 2) := qr1 (P := 1728) (o := 21) (op := 21) (v := 5) qLW27 (by decide +kernel) qo21
theorem dL_law_1751 : decode cL_law 1751 = .ok (.iconst 1, 1) := qr0 (P := 1728) (o := 23) (op := 4) qLW27 (by decide +kernel) qo4
theorem dL_law_1752 : decode cL_law 1752 = .ok (.iadd, 1) := qr0 (P := 1728) (o := 24) (op := 96) qLW27 (by decide +kernel) qo96
theorem dL_law_1753 : decode cL_law 1753 = .ok (.iaload, 1) := qr0 (P := 1728) (o := 25) (op := 46) qLW27 (by decide +kernel) qo46
theorem dL_law_1754 : decode cL_law 1754 = .ok (.aload 4, 2) := qr1 (P := 1728) (o := 26) (op := 25) (v := 4) qLW27 (by decide +kernel) qo25
theorem dL_law_1756 : decode cL_law 1756 = .ok (.invokestatic 276, 3) := qr2 (P := 1728) (o := 28) (op := 184) (v := 276) qLW27 (by decide +kernel) qo184
theorem dL_law_1759 : decode cL_law 1759 = .ok (.istore 6, 2) := qr1 (P := 1728) (o := 31) (op := 54) (v := 6) qLW27 (by decide +kernel) qo54
theorem dL_law_1761 : decode cL_law 1761 = .ok (.aload_n 2, 1) := qr0 (P := 1728) (o := 33) (op := 44) qLW27 (by decide +kernel) qo44
theorem dL_law_1762 : decode cL_law 1762 = .ok (.aload_n 0, 1) := qr0 (P := 1728) (o := 34) (op := 42) qLW27 (by decide +kernel) qo42
theorem dL_law_1763 : decode cL_law 1763 = .ok (.iload 5, 2) := qr1 (P := 1728) (o := 35) (op := 21) (v := 5) qLW27 (by decide +kernel) qo21
theorem dL_law_1765 : decode cL_law 1765 = .ok (.iconst 1, 1) := qr0 (P := 1728) (o := 37) (op := 4) qLW27 (by decide +kernel) qo4
theorem dL_law_1766 : decode cL_law 1766 = .ok (.iadd, 1) := qr0 (P := 1728) (o := 38) (op := 96) qLW27 (by decide +kernel) qo96
theorem dL_law_1767 : decode cL_law 1767 = .ok (.iaload, 1) := qr0 (P := 1728) (o := 39) (op := 46) qLW27 (by decide +kernel) qo46
theorem dL_law_1768 : decode cL_law 1768 = .ok (.invokevirtual 278, 3) := qr2 (P := 1728) (o := 40) (op := 182) (v := 278) qLW27 (by decide +kernel) qo182
theorem dL_law_1771 : decode cL_law 1771 = .ok (.dstore 7, 2) := qr1 (P := 1728) (o := 43) (op := 57) (v := 7) qLW27 (by decide +kernel) qo57
theorem dL_law_1773 : decode cL_law 1773 = .ok (.goto 168, 3) := qr2 (P := 1728) (o := 45) (op := 167) (v := 168) qLW27 (by decide +kernel) (fun h h2 => qo167 h (qs2 h2 (by decide +kernel)))
theorem dL_law_1776 : decode cL_law 1776 = .ok (.aload_n 1, 1) := qr0 (P := 1728) (o := 48) (op := 43) qLW27 (by decide +kernel) qo43
theorem dL_law_1777 : decode cL_law 1777 = .ok (.aload_n 0, 1) := qr0 (P := 1728) (o := 49) (op := 42) qLW27 (by decide +kernel) qo42
theorem dL_law_1778 : decode cL_law 1778 = .ok (.iload 5, 2) := qr1 (P := 1728) (o := 50) (op := 21) (v := 5) qLW27 (by decide +kernel) qo21
theorem dL_law_1780 : decode cL_law 1780 = .ok (.iconst 1, 1) := qr0 (P := 1728) (o := 52) (op := 4) qLW27 (by decide +kernel) qo4
theorem dL_law_1781 : decode cL_law 1781 = .ok (.iadd, 1) := qr0 (P := 1728) (o := 53) (op := 96) qLW27 (by decide +kernel) qo96
theorem dL_law_1782 : decode cL_law 1782 = .ok (.iaload, 1) := qr0 (P := 1728) (o := 54) (op := 46) qLW27 (by decide +kernel) qo46
theorem dL_law_1783 : decode cL_law 1783 = .ok (.aload_n 0, 1) := qr0 (P := 1728) (o := 55) (op := 42) qLW27 (by decide +kernel) qo42
theorem dL_law_1784 : decode cL_law 1784 = .ok (.iload 5, 2) := qr1 (P := 1728) (o := 56) (op := 21) (v := 5) qLW27 (by decide +kernel) qo21
theorem dL_law_1786 : decode cL_law 1786 = .ok (.iconst 2, 1) := qr0 (P := 1728) (o := 58) (op := 5) qLW27 (by decide +kernel) qo5
theorem dL_law_1787 : decode cL_law 1787 = .ok (.iadd, 1) := qr0 (P := 1728) (o := 59) (op := 96) qLW27 (by decide +kernel) qo96
theorem dL_law_1788 : decode cL_law 1788 = .ok (.iaload, 1) := qr0 (P := 1728) (o := 60) (op := 46) qLW27 (by decide +kernel) qo46
theorem dL_law_1789 : decode cL_law 1789 = .ok (.aload_n 0, 1) := qr0 (P := 1728) (o := 61) (op := 42) qLW27 (by decide +kernel) qo42
theorem dL_law_1790 : decode cL_law 1790 = .ok (.iload 5, 2) := qr1 (P := 1728) (o := 62) (op := 21) (v := 5) qLW27 (by decide +kernel) qo21
theorem dL_law_1792 : decode cL_law 1792 = .ok (.iconst 3, 1) := qr0 (P := 1792) (o := 0) (op := 6) qLW28 (by decide +kernel) qo6
theorem dL_law_1793 : decode cL_law 1793 = .ok (.iadd, 1) := qr0 (P := 1792) (o := 1) (op := 96) qLW28 (by decide +kernel) qo96
theorem dL_law_1794 : decode cL_law 1794 = .ok (.iaload, 1) := qr0 (P := 1792) (o := 2) (op := 46) qLW28 (by decide +kernel) qo46
theorem dL_law_1795 : decode cL_law 1795 = .ok (.aload_n 3, 1) := qr0 (P := 1792) (o := 3) (op := 45) qLW28 (by decide +kernel) qo45
theorem dL_law_1796 : decode cL_law 1796 = .ok (.invokestatic 279, 3) := qr2 (P := 1792) (o := 4) (op := 184) (v := 279) qLW28 (by decide +kernel) qo184
theorem dL_law_1799 : decode cL_law 1799 = .ok (.istore 6, 2) := qr1 (P := 1792) (o := 7) (op := 54) (v := 6) qLW28 (by decide +kernel) qo54
theorem dL_law_1801 : decode cL_law 1801 = .ok (.aload_n 2, 1) := qr0 (P := 1792) (o := 9) (op := 44) qLW28 (by decide +kernel) qo44
theorem dL_law_1802 : decode cL_law 1802 = .ok (.aload_n 0, 1) := qr0 (P := 1792) (o := 10) (op := 42) qLW28 (by decide +kernel) qo42
theorem dL_law_1803 : decode cL_law 1803 = .ok (.iload 5, 2) := qr1 (P := 1792) (o := 11) (op := 21) (v := 5) qLW28 (by decide +kernel) qo21
theorem dL_law_1805 : decode cL_law 1805 = .ok (.iconst 1, 1) := qr0 (P := 1792) (o := 13) (op := 4) qLW28 (by decide +kernel) qo4
theorem dL_law_1806 : decode cL_law 1806 = .ok (.iadd, 1) := qr0 (P := 1792) (o := 14) (op := 96) qLW28 (by decide +kernel) qo96
theorem dL_law_1807 : decode cL_law 1807 = .ok (.iaload, 1) := qr0 (P := 1792) (o := 15) (op := 46) qLW28 (by decide +kernel) qo46
theorem dL_law_1808 : decode cL_law 1808 = .ok (.aload_n 0, 1) := qr0 (P := 1792) (o := 16) (op := 42) qLW28 (by decide +kernel) qo42
theorem dL_law_1809 : decode cL_law 1809 = .ok (.iload 5, 2) := qr1 (P := 1792) (o := 17) (op := 21) (v := 5) qLW28 (by decide +kernel) qo21
theorem dL_law_1811 : decode cL_law 1811 = .ok (.iconst 2, 1) := qr0 (P := 1792) (o := 19) (op := 5) qLW28 (by decide +kernel) qo5
theorem dL_law_1812 : decode cL_law 1812 = .ok (.iadd, 1) := qr0 (P := 1792) (o := 20) (op := 96) qLW28 (by decide +kernel) qo96
theorem dL_law_1813 : decode cL_law 1813 = .ok (.iaload, 1) := qr0 (P := 1792) (o := 21) (op := 46) qLW28 (by decide +kernel) qo46
theorem dL_law_1814 : decode cL_law 1814 = .ok (.aload_n 0, 1) := qr0 (P := 1792) (o := 22) (op := 42) qLW28 (by decide +kernel) qo42
theorem dL_law_1815 : decode cL_law 1815 = .ok (.iload 5, 2) := qr1 (P := 1792) (o := 23) (op := 21) (v := 5) qLW28 (by decide +kernel) qo21
theorem dL_law_1817 : decode cL_law 1817 = .ok (.iconst 3, 1) := qr0 (P := 1792) (o := 25) (op := 6) qLW28 (by decide +kernel) qo6
theorem dL_law_1818 : decode cL_law 1818 = .ok (.iadd, 1) := qr0 (P := 1792) (o := 26) (op := 96) qLW28 (by decide +kernel) qo96
theorem dL_law_1819 : decode cL_law 1819 = .ok (.iaload, 1) := qr0 (P := 1792) (o := 27) (op := 46) qLW28 (by decide +kernel) qo46
theorem dL_law_1820 : decode cL_law 1820 = .ok (.invokevirtual 281, 3) := qr2 (P := 1792) (o := 28) (op := 182) (v := 281) qLW28 (by decide +kernel) qo182
theorem dL_law_1823 : decode cL_law 1823 = .ok (.istore 7, 2) := qr1 (P := 1792) (o := 31) (op := 54) (v := 7) qLW28 (by decide +kernel) qo54
theorem dL_law_1825 : decode cL_law 1825 = .ok (.goto 116, 3) := qr2 (P := 1792) (o := 33) (op := 167) (v := 116) qLW28 (by decide +kernel) (fun h h2 => qo167 h (qs2 h2 (by decide +kernel)))
theorem dL_law_1828 : decode cL_law 1828 = .ok (.aload_n 1, 1) := qr0 (P := 1792) (o := 36) (op := 43) qLW28 (by decide +kernel) qo43
theorem dL_law_1829 : decode cL_law 1829 = .ok (.invokevirtual 282, 3) := qr2 (P := 1792) (o := 37) (op := 182) (v := 282) qLW28 (by decide +kernel) qo182
theorem dL_law_1832 : decode cL_law 1832 = .ok (.pop, 1) := qr0 (P := 1792) (o := 40) (op := 87) qLW28 (by decide +kernel) qo87
theorem dL_law_1833 : decode cL_law 1833 = .ok (.aload_n 2, 1) := qr0 (P := 1792) (o := 41) (op := 44) qLW28 (by decide +kernel) qo44
theorem dL_law_1834 : decode cL_law 1834 = .ok (.invokevirtual 285, 3) := qr2 (P := 1792) (o := 42) (op := 182) (v := 285) qLW28 (by decide +kernel) qo182
theorem dL_law_1837 : decode cL_law 1837 = .ok (.pop, 1) := qr0 (P := 1792) (o := 45) (op := 87) qLW28 (by decide +kernel) qo87
theorem dL_law_1838 : decode cL_law 1838 = .ok (.goto 103, 3) := qr2 (P := 1792) (o := 46) (op := 167) (v := 103) qLW28 (by decide +kernel) (fun h h2 => qo167 h (qs2 h2 (by decide +kernel)))
theorem dL_law_1841 : decode cL_law 1841 = .ok (.aload_n 1, 1) := qr0 (P := 1792) (o := 49) (op := 43) qLW28 (by decide +kernel) qo43
theorem dL_law_1842 : decode cL_law 1842 = .ok (.aload_n 0, 1) := qr0 (P := 1792) (o := 50) (op := 42) qLW28 (by decide +kernel) qo42
theorem dL_law_1843 : decode cL_law 1843 = .ok (.iload 5, 2) := qr1 (P := 1792) (o := 51) (op := 21) (v := 5) qLW28 (by decide +kernel) qo21
theorem dL_law_1845 : decode cL_law 1845 = .ok (.iconst 1, 1) := qr0 (P := 1792) (o := 53) (op := 4) qLW28 (by decide +kernel) qo4
theorem dL_law_1846 : decode cL_law 1846 = .ok (.iadd, 1) := qr0 (P := 1792) (o := 54) (op := 96) qLW28 (by decide +kernel) qo96
theorem dL_law_1847 : decode cL_law 1847 = .ok (.iaload, 1) := qr0 (P := 1792) (o := 55) (op := 46) qLW28 (by decide +kernel) qo46
theorem dL_law_1848 : decode cL_law 1848 = .ok (.aload_n 3, 1) := qr0 (P := 1792) (o := 56) (op := 45) qLW28 (by decide +kernel) qo45
theorem dL_law_1849 : decode cL_law 1849 = .ok (.invokestatic 286, 3) := qr2 (P := 1792) (o := 57) (op := 184) (v := 286) qLW28 (by decide +kernel) qo184
theorem dL_law_1852 : decode cL_law 1852 = .ok (.istore 6, 2) := qr1 (P := 1792) (o := 60) (op := 54) (v := 6) qLW28 (by decide +kernel) qo54
theorem dL_law_1854 : decode cL_law 1854 = .ok (.aload_n 2, 1) := qr0 (P := 1792) (o := 62) (op := 44) qLW28 (by decide +kernel) qo44
theorem dL_law_1855 : decode cL_law 1855 = .ok (.aload_n 0, 1) := qr0 (P := 1792) (o := 63) (op := 42) qLW28 (by decide +kernel) qo42
theorem dL_law_1856 : decode cL_law 1856 = .ok (.iload 5, 2) := qr1 (P := 1856) (o := 0) (op := 21) (v := 5) qLW29 (by decide +kernel) qo21
theorem dL_law_1858 : decode cL_law 1858 = .ok (.iconst 1, 1) := qr0 (P := 1856) (o := 2) (op := 4) qLW29 (by decide +kernel) qo4
theorem dL_law_1859 : decode cL_law 1859 = .ok (.iadd, 1) := qr0 (P := 1856) (o := 3) (op := 96) qLW29 (by decide +kernel) qo96
theorem dL_law_1860 : decode cL_law 1860 = .ok (.iaload, 1) := qr0 (P := 1856) (o := 4) (op := 46) qLW29 (by decide +kernel) qo46
theorem dL_law_1861 : decode cL_law 1861 = .ok (.invokevirtual 288, 3) := qr2 (P := 1856) (o := 5) (op := 182) (v := 288) qLW29 (by decide +kernel) qo182
theorem dL_law_1864 : decode cL_law 1864 = .ok (.istore 7, 2) := qr1 (P := 1856) (o := 8) (op := 54) (v := 7) qLW29 (by decide +kernel) qo54
theorem dL_law_1866 : decode cL_law 1866 = .ok (.goto 75, 3) := qr2 (P := 1856) (o := 10) (op := 167) (v := 75) qLW29 (by decide +kernel) (fun h h2 => qo167 h (qs2 h2 (by decide +kernel)))
theorem dL_law_1869 : decode cL_law 1869 = .ok (.aload_n 1, 1) := qr0 (P := 1856) (o := 13) (op := 43) qLW29 (by decide +kernel) qo43
theorem dL_law_1870 : decode cL_law 1870 = .ok (.aload 4, 2) := qr1 (P := 1856) (o := 14) (op := 25) (v := 4) qLW29 (by decide +kernel) qo25
theorem dL_law_1872 : decode cL_law 1872 = .ok (.invokestatic 289, 3) := qr2 (P := 1856) (o := 16) (op := 184) (v := 289) qLW29 (by decide +kernel) qo184
theorem dL_law_1875 : decode cL_law 1875 = .ok (.istore 6, 2) := qr1 (P := 1856) (o := 19) (op := 54) (v := 6) qLW29 (by decide +kernel) qo54
theorem dL_law_1877 : decode cL_law 1877 = .ok (.aload_n 2, 1) := qr0 (P := 1856) (o := 21) (op := 44) qLW29 (by decide +kernel) qo44
theorem dL_law_1878 : decode cL_law 1878 = .ok (.invokevirtual 292, 3) := qr2 (P := 1856) (o := 22) (op := 182) (v := 292) qLW29 (by decide +kernel) qo182
theorem dL_law_1881 : decode cL_law 1881 = .ok (.fstore 7, 2) := qr1 (P := 1856) (o := 25) (op := 56) (v := 7) qLW29 (by decide +kernel) qo56
theorem dL_law_1883 : decode cL_law 1883 = .ok (.goto 58, 3) := qr2 (P := 1856) (o := 27) (op := 167) (v := 58) qLW29 (by decide +kernel) (fun h h2 => qo167 h (qs2 h2 (by decide +kernel)))
theorem dL_law_1886 : decode cL_law 1886 = .ok (.aload_n 1, 1) := qr0 (P := 1856) (o := 30) (op := 43) qLW29 (by decide +kernel) qo43
theorem dL_law_1887 : decode cL_law 1887 = .ok (.aload_n 0, 1) := qr0 (P := 1856) (o := 31) (op := 42) qLW29 (by decide +kernel) qo42
theorem dL_law_1888 : decode cL_law 1888 = .ok (.iload 5, 2) := qr1 (P := 1856) (o := 32) (op := 21) (v := 5) qLW29 (by decide +kernel) qo21
theorem dL_law_1890 : decode cL_law 1890 = .ok (.iconst 1, 1) := qr0 (P := 1856) (o := 34) (op := 4) qLW29 (by decide +kernel) qo4
theorem dL_law_1891 : decode cL_law 1891 = .ok (.iadd, 1) := qr0 (P := 1856) (o := 35) (op := 96) qLW29 (by decide +kernel) qo96
theorem dL_law_1892 : decode cL_law 1892 = .ok (.iaload, 1) := qr0 (P := 1856) (o := 36) (op := 46) qLW29 (by decide +kernel) qo46
theorem dL_law_1893 : decode cL_law 1893 = .ok (.aload 4, 2) := qr1 (P := 1856) (o := 37) (op := 25) (v := 4) qLW29 (by decide +kernel) qo25
theorem dL_law_1895 : decode cL_law 1895 = .ok (.invokestatic 293, 3) := qr2 (P := 1856) (o := 39) (op := 184) (v := 293) qLW29 (by decide +kernel) qo184
theorem dL_law_1898 : decode cL_law 1898 = .ok (.istore 6, 2) := qr1 (P := 1856) (o := 42) (op := 54) (v := 6) qLW29 (by decide +kernel) qo54
theorem dL_law_1900 : decode cL_law 1900 = .ok (.aload_n 2, 1) := qr0 (P := 1856) (o := 44) (op := 44) qLW29 (by decide +kernel) qo44
theorem dL_law_1901 : decode cL_law 1901 = .ok (.aload_n 0, 1) := qr0 (P := 1856) (o := 45) (op := 42) qLW29 (by decide +kernel) qo42
theorem dL_law_1902 : decode cL_law 1902 = .ok (.iload 5, 2) := qr1 (P := 1856) (o := 46) (op := 21) (v := 5) qLW29 (by decide +kernel) qo21
theorem dL_law_1904 : decode cL_law 1904 = .ok (.iconst 1, 1) := qr0 (P := 1856) (o := 48) (op := 4) qLW29 (by decide +kernel) qo4
theorem dL_law_1905 : decode cL_law 1905 = .ok (.iadd, 1) := qr0 (P := 1856) (o := 49) (op := 96) qLW29 (by decide +kernel) qo96
theorem dL_law_1906 : decode cL_law 1906 = .ok (.iaload, 1) := qr0 (P := 1856) (o := 50) (op := 46) qLW29 (by decide +kernel) qo46
theorem dL_law_1907 : decode cL_law 1907 = .ok (.invokevirtual 295, 3) := qr2 (P := 1856) (o := 51) (op := 182) (v := 295) qLW29 (by decide +kernel) qo182
theorem dL_law_1910 : decode cL_law 1910 = .ok (.dstore 7, 2) := qr1 (P := 1856) (o := 54) (op := 57) (v := 7) qLW29 (by decide +kernel) qo57
theorem dL_law_1912 : decode cL_law 1912 = .ok (.goto 29, 3) := qr2 (P := 1856) (o := 56) (op := 167) (v := 29) qLW29 (by decide +kernel) (fun h h2 => qo167 h (qs2 h2 (by decide +kernel)))
theorem dL_law_1915 : decode cL_law 1915 = .ok (.aload_n 1, 1) := qr0 (P := 1856) (o := 59) (op := 43) qLW29 (by decide +kernel) qo43
theorem dL_law_1916 : decode cL_law 1916 = .ok (.invokevirtual 296, 3) := qr2 (P := 1856) (o := 60) (op := 182) (v := 296) qLW29 (by decide +kernel) qo182
theorem dL_law_1919 : decode cL_law 1919 = .ok (.pop2, 1) := qr0 (P := 1856) (o := 63) (op := 88) qLW29 (by decide +kernel) qo88
theorem dL_law_1920 : decode cL_law 1920 = .ok (.aload_n 2, 1) := qr0 (P := 1920) (o := 0) (op := 44) qLW30 (by decide +kernel) qo44
theorem dL_law_1921 : decode cL_law 1921 = .ok (.invokevirtual 300, 3) := qr2 (P := 1920) (o := 1) (op := 182) (v := 300) qLW30 (by decide +kernel) qo182
theorem dL_law_1924 : decode cL_law 1924 = .ok (.pop2, 1) := qr0 (P := 1920) (o := 4) (op := 88) qLW30 (by decide +kernel) qo88
theorem dL_law_1925 : decode cL_law 1925 = .ok (.goto 16, 3) := qr2 (P := 1920) (o := 5) (op := 167) (v := 16) qLW30 (by decide +kernel) (fun h h2 => qo167 h (qs2 h2 (by decide +kernel)))
theorem dL_law_1928 : decode cL_law 1928 = .ok (.aload_n 1, 1) := qr0 (P := 1920) (o := 8) (op := 43) qLW30 (by decide +kernel) qo43
theorem dL_law_1929 : decode cL_law 1929 = .ok (.invokevirtual 301, 3) := qr2 (P := 1920) (o := 9) (op := 182) (v := 301) qLW30 (by decide +kernel) qo182
theorem dL_law_1932 : decode cL_law 1932 = .ok (.pop, 1) := qr0 (P := 1920) (o := 12) (op := 87) qLW30 (by decide +kernel) qo87
theorem dL_law_1933 : decode cL_law 1933 = .ok (.aload_n 2, 1) := qr0 (P := 1920) (o := 13) (op := 44) qLW30 (by decide +kernel) qo44
theorem dL_law_1934 : decode cL_law 1934 = .ok (.invokevirtual 305, 3) := qr2 (P := 1920) (o := 14) (op := 182) (v := 305) qLW30 (by decide +kernel) qo182
theorem dL_law_1937 : decode cL_law 1937 = .ok (.pop, 1) := qr0 (P := 1920) (o := 17) (op := 87) qLW30 (by decide +kernel) qo87
theorem dL_law_1938 : decode cL_law 1938 = .ok (.goto 3, 3) := qr2 (P := 1920) (o := 18) (op := 167) (v := 3) qLW30 (by decide +kernel) (fun h h2 => qo167 h (qs2 h2 (by decide +kernel)))
theorem dL_law_1941 : decode cL_law 1941 = .ok (.iinc 5 6, 3) := by decide +kernel
theorem dL_law_1944 : decode cL_law 1944 = .ok (.goto (-1916), 3) := qr2 (P := 1920) (o := 24) (op := 167) (v := 63620) qLW30 (by decide +kernel) (fun h h2 => qo167 h (qs2 h2 (by decide +kernel)))
theorem dL_law_1947 : decode cL_law 1947 = .ok (.iconst 1, 1) := qr0 (P := 1920) (o := 27) (op := 4) qLW30 (by decide +kernel) qo4
theorem dL_law_1948 : decode cL_law 1948 = .ok (.ireturn, 1) := qr0 (P := 1920) (o := 28) (op := 172) qLW30 (by decide +kernel) qo172
