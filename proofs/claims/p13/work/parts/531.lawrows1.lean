theorem dL_law_0 : decode cL_law 0 = .ok (.new 8, 3) := qr2 (P := 0) (o := 0) (op := 187) (v := 8) qLW0 (by decide +kernel) qo187
theorem dL_law_3 : decode cL_law 3 = .ok (.dup, 1) := qr0 (P := 0) (o := 3) (op := 89) qLW0 (by decide +kernel) qo89
theorem dL_law_4 : decode cL_law 4 = .ok (.invokespecial 145, 3) := qr2 (P := 0) (o := 4) (op := 183) (v := 145) qLW0 (by decide +kernel) qo183
theorem dL_law_7 : decode cL_law 7 = .ok (.astore_n 1, 1) := qr0 (P := 0) (o := 7) (op := 76) qLW0 (by decide +kernel) qo76
theorem dL_law_8 : decode cL_law 8 = .ok (.new 146, 3) := qr2 (P := 0) (o := 8) (op := 187) (v := 146) qLW0 (by decide +kernel) qo187
theorem dL_law_11 : decode cL_law 11 = .ok (.dup, 1) := qr0 (P := 0) (o := 11) (op := 89) qLW0 (by decide +kernel) qo89
theorem dL_law_12 : decode cL_law 12 = .ok (.invokespecial 148, 3) := qr2 (P := 0) (o := 12) (op := 183) (v := 148) qLW0 (by decide +kernel) qo183
theorem dL_law_15 : decode cL_law 15 = .ok (.astore_n 2, 1) := qr0 (P := 0) (o := 15) (op := 77) qLW0 (by decide +kernel) qo77
theorem dL_law_16 : decode cL_law 16 = .ok (.iconst 1, 1) := qr0 (P := 0) (o := 16) (op := 4) qLW0 (by decide +kernel) qo4
theorem dL_law_17 : decode cL_law 17 = .ok (.newarray .long, 2) := by decide +kernel
theorem dL_law_19 : decode cL_law 19 = .ok (.astore_n 3, 1) := qr0 (P := 0) (o := 19) (op := 78) qLW0 (by decide +kernel) qo78
theorem dL_law_20 : decode cL_law 20 = .ok (.iconst 1, 1) := qr0 (P := 0) (o := 20) (op := 4) qLW0 (by decide +kernel) qo4
theorem dL_law_21 : decode cL_law 21 = .ok (.newarray .double, 2) := by decide +kernel
theorem dL_law_23 : decode cL_law 23 = .ok (.astore 4, 2) := qr1 (P := 0) (o := 23) (op := 58) (v := 4) qLW0 (by decide +kernel) qo58
theorem dL_law_25 : decode cL_law 25 = .ok (.iconst 0, 1) := qr0 (P := 0) (o := 25) (op := 3) qLW0 (by decide +kernel) qo3
theorem dL_law_26 : decode cL_law 26 = .ok (.istore 5, 2) := qr1 (P := 0) (o := 26) (op := 54) (v := 5) qLW0 (by decide +kernel) qo54
theorem dL_law_28 : decode cL_law 28 = .ok (.iload 5, 2) := qr1 (P := 0) (o := 28) (op := 21) (v := 5) qLW0 (by decide +kernel) qo21
theorem dL_law_30 : decode cL_law 30 = .ok (.aload_n 0, 1) := qr0 (P := 0) (o := 30) (op := 42) qLW0 (by decide +kernel) qo42
theorem dL_law_31 : decode cL_law 31 = .ok (.arraylength, 1) := qr0 (P := 0) (o := 31) (op := 190) qLW0 (by decide +kernel) qo190
theorem dL_law_32 : decode cL_law 32 = .ok (.bipush 6, 2) := qr1 (P := 0) (o := 32) (op := 16) (v := 6) qLW0 (by decide +kernel) (fun h h2 => qo16 h (qs1 h2 (by decide +kernel)))
theorem dL_law_34 : decode cL_law 34 = .ok (.isub, 1) := qr0 (P := 0) (o := 34) (op := 100) qLW0 (by decide +kernel) qo100
theorem dL_law_35 : decode cL_law 35 = .ok (.if_icmp .gt 1884, 3) := qr2 (P := 0) (o := 35) (op := 163) (v := 1884) qLW0 (by decide +kernel) (fun h h2 => qo163 h (qs2 h2 (by decide +kernel)))
theorem dL_law_38 : decode cL_law 38 = .ok (.aload_n 0, 1) := qr0 (P := 0) (o := 38) (op := 42) qLW0 (by decide +kernel) qo42
theorem dL_law_39 : decode cL_law 39 = .ok (.iload 5, 2) := qr1 (P := 0) (o := 39) (op := 21) (v := 5) qLW0 (by decide +kernel) qo21
theorem dL_law_41 : decode cL_law 41 = .ok (.iaload, 1) := qr0 (P := 0) (o := 41) (op := 46) qLW0 (by decide +kernel) qo46
theorem dL_law_42 : decode cL_law 42 = .ok (.bipush 63, 2) := qr1 (P := 0) (o := 42) (op := 16) (v := 63) qLW0 (by decide +kernel) (fun h h2 => qo16 h (qs1 h2 (by decide +kernel)))
theorem dL_law_44 : decode cL_law 44 = .ok (.iand, 1) := qr0 (P := 0) (o := 44) (op := 126) qLW0 (by decide +kernel) qo126
theorem dL_law_45 : decode cL_law 45 = .ok (.tableswitch 1868 0 42 #[187, 263, 291, 319, 347, 360, 388, 416, 444, 484, 525, 553, 594, 607, 623, 689, 741, 793, 845, 897, 949, 1001, 1053, 1081, 1109, 1165, 1245, 1297, 1325, 1365, 1405, 1473, 1553, 1617, 1645, 1674, 1703, 1755, 1768, 1796, 1813, 1842, 1855], 187) := by decide +kernel
theorem dL_law_232 : decode cL_law 232 = .ok (.aload_n 1, 1) := qr0 (P := 192) (o := 40) (op := 43) qLW3 (by decide +kernel) qo43
theorem dL_law_233 : decode cL_law 233 = .ok (.aload_n 0, 1) := qr0 (P := 192) (o := 41) (op := 42) qLW3 (by decide +kernel) qo42
theorem dL_law_234 : decode cL_law 234 = .ok (.iload 5, 2) := qr1 (P := 192) (o := 42) (op := 21) (v := 5) qLW3 (by decide +kernel) qo21
theorem dL_law_236 : decode cL_law 236 = .ok (.iconst 1, 1) := qr0 (P := 192) (o := 44) (op := 4) qLW3 (by decide +kernel) qo4
theorem dL_law_237 : decode cL_law 237 = .ok (.iadd, 1) := qr0 (P := 192) (o := 45) (op := 96) qLW3 (by decide +kernel) qo96
theorem dL_law_238 : decode cL_law 238 = .ok (.iaload, 1) := qr0 (P := 192) (o := 46) (op := 46) qLW3 (by decide +kernel) qo46
theorem dL_law_239 : decode cL_law 239 = .ok (.aload_n 0, 1) := qr0 (P := 192) (o := 47) (op := 42) qLW3 (by decide +kernel) qo42
theorem dL_law_240 : decode cL_law 240 = .ok (.iload 5, 2) := qr1 (P := 192) (o := 48) (op := 21) (v := 5) qLW3 (by decide +kernel) qo21
theorem dL_law_242 : decode cL_law 242 = .ok (.iconst 2, 1) := qr0 (P := 192) (o := 50) (op := 5) qLW3 (by decide +kernel) qo5
theorem dL_law_243 : decode cL_law 243 = .ok (.iadd, 1) := qr0 (P := 192) (o := 51) (op := 96) qLW3 (by decide +kernel) qo96
theorem dL_law_244 : decode cL_law 244 = .ok (.iaload, 1) := qr0 (P := 192) (o := 52) (op := 46) qLW3 (by decide +kernel) qo46
theorem dL_law_245 : decode cL_law 245 = .ok (.aload_n 0, 1) := qr0 (P := 192) (o := 53) (op := 42) qLW3 (by decide +kernel) qo42
theorem dL_law_246 : decode cL_law 246 = .ok (.iload 5, 2) := qr1 (P := 192) (o := 54) (op := 21) (v := 5) qLW3 (by decide +kernel) qo21
theorem dL_law_248 : decode cL_law 248 = .ok (.iconst 3, 1) := qr0 (P := 192) (o := 56) (op := 6) qLW3 (by decide +kernel) qo6
theorem dL_law_249 : decode cL_law 249 = .ok (.iadd, 1) := qr0 (P := 192) (o := 57) (op := 96) qLW3 (by decide +kernel) qo96
theorem dL_law_250 : decode cL_law 250 = .ok (.iaload, 1) := qr0 (P := 192) (o := 58) (op := 46) qLW3 (by decide +kernel) qo46
theorem dL_law_251 : decode cL_law 251 = .ok (.aload_n 0, 1) := qr0 (P := 192) (o := 59) (op := 42) qLW3 (by decide +kernel) qo42
theorem dL_law_252 : decode cL_law 252 = .ok (.iload 5, 2) := qr1 (P := 192) (o := 60) (op := 21) (v := 5) qLW3 (by decide +kernel) qo21
theorem dL_law_254 : decode cL_law 254 = .ok (.iconst 4, 1) := qr0 (P := 192) (o := 62) (op := 7) qLW3 (by decide +kernel) qo7
theorem dL_law_255 : decode cL_law 255 = .ok (.iadd, 1) := qr0 (P := 192) (o := 63) (op := 96) qLW3 (by decide +kernel) qo96
theorem dL_law_256 : decode cL_law 256 = .ok (.iaload, 1) := qr0 (P := 256) (o := 0) (op := 46) qLW4 (by decide +kernel) qo46
theorem dL_law_257 : decode cL_law 257 = .ok (.aload_n 0, 1) := qr0 (P := 256) (o := 1) (op := 42) qLW4 (by decide +kernel) qo42
theorem dL_law_258 : decode cL_law 258 = .ok (.iload 5, 2) := qr1 (P := 256) (o := 2) (op := 21) (v := 5) qLW4 (by decide +kernel) qo21
theorem dL_law_260 : decode cL_law 260 = .ok (.iconst 5, 1) := qr0 (P := 256) (o := 4) (op := 8) qLW4 (by decide +kernel) qo8
theorem dL_law_261 : decode cL_law 261 = .ok (.iadd, 1) := qr0 (P := 256) (o := 5) (op := 96) qLW4 (by decide +kernel) qo96
theorem dL_law_262 : decode cL_law 262 = .ok (.iaload, 1) := qr0 (P := 256) (o := 6) (op := 46) qLW4 (by decide +kernel) qo46
theorem dL_law_263 : decode cL_law 263 = .ok (.aload_n 3, 1) := qr0 (P := 256) (o := 7) (op := 45) qLW4 (by decide +kernel) qo45
theorem dL_law_264 : decode cL_law 264 = .ok (.invokestatic 149, 3) := qr2 (P := 256) (o := 8) (op := 184) (v := 149) qLW4 (by decide +kernel) qo184
theorem dL_law_267 : decode cL_law 267 = .ok (.istore 6, 2) := qr1 (P := 256) (o := 11) (op := 54) (v := 6) qLW4 (by decide +kernel) qo54
theorem dL_law_269 : decode cL_law 269 = .ok (.aload_n 2, 1) := qr0 (P := 256) (o := 13) (op := 44) qLW4 (by decide +kernel) qo44
theorem dL_law_270 : decode cL_law 270 = .ok (.aload_n 0, 1) := qr0 (P := 256) (o := 14) (op := 42) qLW4 (by decide +kernel) qo42
theorem dL_law_271 : decode cL_law 271 = .ok (.iload 5, 2) := qr1 (P := 256) (o := 15) (op := 21) (v := 5) qLW4 (by decide +kernel) qo21
theorem dL_law_273 : decode cL_law 273 = .ok (.iconst 1, 1) := qr0 (P := 256) (o := 17) (op := 4) qLW4 (by decide +kernel) qo4
theorem dL_law_274 : decode cL_law 274 = .ok (.iadd, 1) := qr0 (P := 256) (o := 18) (op := 96) qLW4 (by decide +kernel) qo96
theorem dL_law_275 : decode cL_law 275 = .ok (.iaload, 1) := qr0 (P := 256) (o := 19) (op := 46) qLW4 (by decide +kernel) qo46
theorem dL_law_276 : decode cL_law 276 = .ok (.aload_n 0, 1) := qr0 (P := 256) (o := 20) (op := 42) qLW4 (by decide +kernel) qo42
theorem dL_law_277 : decode cL_law 277 = .ok (.iload 5, 2) := qr1 (P := 256) (o := 21) (op := 21) (v := 5) qLW4 (by decide +kernel) qo21
theorem dL_law_279 : decode cL_law 279 = .ok (.iconst 2, 1) := qr0 (P := 256) (o := 23) (op := 5) qLW4 (by decide +kernel) qo5
theorem dL_law_280 : decode cL_law 280 = .ok (.iadd, 1) := qr0 (P := 256) (o := 24) (op := 96) qLW4 (by decide +kernel) qo96
theorem dL_law_281 : decode cL_law 281 = .ok (.iaload, 1) := qr0 (P := 256) (o := 25) (op := 46) qLW4 (by decide +kernel) qo46
theorem dL_law_282 : decode cL_law 282 = .ok (.aload_n 0, 1) := qr0 (P := 256) (o := 26) (op := 42) qLW4 (by decide +kernel) qo42
theorem dL_law_283 : decode cL_law 283 = .ok (.iload 5, 2) := qr1 (P := 256) (o := 27) (op := 21) (v := 5) qLW4 (by decide +kernel) qo21
theorem dL_law_285 : decode cL_law 285 = .ok (.iconst 3, 1) := qr0 (P := 256) (o := 29) (op := 6) qLW4 (by decide +kernel) qo6
theorem dL_law_286 : decode cL_law 286 = .ok (.iadd, 1) := qr0 (P := 256) (o := 30) (op := 96) qLW4 (by decide +kernel) qo96
theorem dL_law_287 : decode cL_law 287 = .ok (.iaload, 1) := qr0 (P := 256) (o := 31) (op := 46) qLW4 (by decide +kernel) qo46
theorem dL_law_288 : decode cL_law 288 = .ok (.aload_n 0, 1) := qr0 (P := 256) (o := 32) (op := 42) qLW4 (by decide +kernel) qo42
theorem dL_law_289 : decode cL_law 289 = .ok (.iload 5, 2) := qr1 (P := 256) (o := 33) (op := 21) (v := 5) qLW4 (by decide +kernel) qo21
theorem dL_law_291 : decode cL_law 291 = .ok (.iconst 4, 1) := qr0 (P := 256) (o := 35) (op := 7) qLW4 (by decide +kernel) qo7
theorem dL_law_292 : decode cL_law 292 = .ok (.iadd, 1) := qr0 (P := 256) (o := 36) (op := 96) qLW4 (by decide +kernel) qo96
theorem dL_law_293 : decode cL_law 293 = .ok (.iaload, 1) := qr0 (P := 256) (o := 37) (op := 46) qLW4 (by decide +kernel) qo46
theorem dL_law_294 : decode cL_law 294 = .ok (.aload_n 0, 1) := qr0 (P := 256) (o := 38) (op := 42) qLW4 (by decide +kernel) qo42
theorem dL_law_295 : decode cL_law 295 = .ok (.iload 5, 2) := qr1 (P := 256) (o := 39) (op := 21) (v := 5) qLW4 (by decide +kernel) qo21
theorem dL_law_297 : decode cL_law 297 = .ok (.iconst 5, 1) := qr0 (P := 256) (o := 41) (op := 8) qLW4 (by decide +kernel) qo8
theorem dL_law_298 : decode cL_law 298 = .ok (.iadd, 1) := qr0 (P := 256) (o := 42) (op := 96) qLW4 (by decide +kernel) qo96
theorem dL_law_299 : decode cL_law 299 = .ok (.iaload, 1) := qr0 (P := 256) (o := 43) (op := 46) qLW4 (by decide +kernel) qo46
theorem dL_law_300 : decode cL_law 300 = .ok (.invokevirtual 154, 3) := qr2 (P := 256) (o := 44) (op := 182) (v := 154) qLW4 (by decide +kernel) qo182
theorem dL_law_303 : decode cL_law 303 = .ok (.istore 7, 2) := qr1 (P := 256) (o := 47) (op := 54) (v := 7) qLW4 (by decide +kernel) qo54
theorem dL_law_305 : decode cL_law 305 = .ok (.goto 1608, 3) := qr2 (P := 256) (o := 49) (op := 167) (v := 1608) qLW4 (by decide +kernel) (fun h h2 => qo167 h (qs2 h2 (by decide +kernel)))
theorem dL_law_308 : decode cL_law 308 = .ok (.aload_n 1, 1) := qr0 (P := 256) (o := 52) (op := 43) qLW4 (by decide +kernel) qo43
theorem dL_law_309 : decode cL_law 309 = .ok (.aload_n 0, 1) := qr0 (P := 256) (o := 53) (op := 42) qLW4 (by decide +kernel) qo42
theorem dL_law_310 : decode cL_law 310 = .ok (.iload 5, 2) := qr1 (P := 256) (o := 54) (op := 21) (v := 5) qLW4 (by decide +kernel) qo21
theorem dL_law_312 : decode cL_law 312 = .ok (.iconst 1, 1) := qr0 (P := 256) (o := 56) (op := 4) qLW4 (by decide +kernel) qo4
theorem dL_law_313 : decode cL_law 313 = .ok (.iadd, 1) := qr0 (P := 256) (o := 57) (op := 96) qLW4 (by decide +kernel) qo96
theorem dL_law_314 : decode cL_law 314 = .ok (.iaload, 1) := qr0 (P := 256) (o := 58) (op := 46) qLW4 (by decide +kernel) qo46
theorem dL_law_315 : decode cL_law 315 = .ok (.aload_n 3, 1) := qr0 (P := 256) (o := 59) (op := 45) qLW4 (by decide +kernel) qo45
theorem dL_law_316 : decode cL_law 316 = .ok (.invokestatic 155, 3) := qr2 (P := 256) (o := 60) (op := 184) (v := 155) qLW4 (by decide +kernel) qo184
theorem dL_law_319 : decode cL_law 319 = .ok (.istore 6, 2) := qr1 (P := 256) (o := 63) (op := 54) (v := 6) qLW4 (by decide +kernel) qo54
theorem dL_law_321 : decode cL_law 321 = .ok (.aload_n 2, 1) := qr0 (P := 320) (o := 1) (op := 44) qLW5 (by decide +kernel) qo44
theorem dL_law_322 : decode cL_law 322 = .ok (.aload_n 0, 1) := qr0 (P := 320) (o := 2) (op := 42) qLW5 (by decide +kernel) qo42
theorem dL_law_323 : decode cL_law 323 = .ok (.iload 5, 2) := qr1 (P := 320) (o := 3) (op := 21) (v := 5) qLW5 (by decide +kernel) qo21
theorem dL_law_325 : decode cL_law 325 = .ok (.iconst 1, 1) := qr0 (P := 320) (o := 5) (op := 4) qLW5 (by decide +kernel) qo4
theorem dL_law_326 : decode cL_law 326 = .ok (.iadd, 1) := qr0 (P := 320) (o := 6) (op := 96) qLW5 (by decide +kernel) qo96
theorem dL_law_327 : decode cL_law 327 = .ok (.iaload, 1) := qr0 (P := 320) (o := 7) (op := 46) qLW5 (by decide +kernel) qo46
theorem dL_law_328 : decode cL_law 328 = .ok (.invokevirtual 158, 3) := qr2 (P := 320) (o := 8) (op := 182) (v := 158) qLW5 (by decide +kernel) qo182
theorem dL_law_331 : decode cL_law 331 = .ok (.istore 7, 2) := qr1 (P := 320) (o := 11) (op := 54) (v := 7) qLW5 (by decide +kernel) qo54
theorem dL_law_333 : decode cL_law 333 = .ok (.goto 1580, 3) := qr2 (P := 320) (o := 13) (op := 167) (v := 1580) qLW5 (by decide +kernel) (fun h h2 => qo167 h (qs2 h2 (by decide +kernel)))
theorem dL_law_336 : decode cL_law 336 = .ok (.aload_n 1, 1) := qr0 (P := 320) (o := 16) (op := 43) qLW5 (by decide +kernel) qo43
theorem dL_law_337 : decode cL_law 337 = .ok (.aload_n 0, 1) := qr0 (P := 320) (o := 17) (op := 42) qLW5 (by decide +kernel) qo42
theorem dL_law_338 : decode cL_law 338 = .ok (.iload 5, 2) := qr1 (P := 320) (o := 18) (op := 21) (v := 5) qLW5 (by decide +kernel) qo21
theorem dL_law_340 : decode cL_law 340 = .ok (.iconst 1, 1) := qr0 (P := 320) (o := 20) (op := 4) qLW5 (by decide +kernel) qo4
theorem dL_law_341 : decode cL_law 341 = .ok (.iadd, 1) := qr0 (P := 320) (o := 21) (op := 96) qLW5 (by decide +kernel) qo96
theorem dL_law_342 : decode cL_law 342 = .ok (.iaload, 1) := qr0 (P := 320) (o := 22) (op := 46) qLW5 (by decide +kernel) qo46
theorem dL_law_343 : decode cL_law 343 = .ok (.aload_n 3, 1) := qr0 (P := 320) (o := 23) (op := 45) qLW5 (by decide +kernel) qo45
theorem dL_law_344 : decode cL_law 344 = .ok (.invokestatic 159, 3) := qr2 (P := 320) (o := 24) (op := 184) (v := 159) qLW5 (by decide +kernel) qo184
theorem dL_law_347 : decode cL_law 347 = .ok (.istore 6, 2) := qr1 (P := 320) (o := 27) (op := 54) (v := 6) qLW5 (by decide +kernel) qo54
theorem dL_law_349 : decode cL_law 349 = .ok (.aload_n 2, 1) := qr0 (P := 320) (o := 29) (op := 44) qLW5 (by decide +kernel) qo44
theorem dL_law_350 : decode cL_law 350 = .ok (.aload_n 0, 1) := qr0 (P := 320) (o := 30) (op := 42) qLW5 (by decide +kernel) qo42
theorem dL_law_351 : decode cL_law 351 = .ok (.iload 5, 2) := qr1 (P := 320) (o := 31) (op := 21) (v := 5) qLW5 (by decide +kernel) qo21
theorem dL_law_353 : decode cL_law 353 = .ok (.iconst 1, 1) := qr0 (P := 320) (o := 33) (op := 4) qLW5 (by decide +kernel) qo4
theorem dL_law_354 : decode cL_law 354 = .ok (.iadd, 1) := qr0 (P := 320) (o := 34) (op := 96) qLW5 (by decide +kernel) qo96
theorem dL_law_355 : decode cL_law 355 = .ok (.iaload, 1) := qr0 (P := 320) (o := 35) (op := 46) qLW5 (by decide +kernel) qo46
theorem dL_law_356 : decode cL_law 356 = .ok (.invokevirtual 161, 3) := qr2 (P := 320) (o := 36) (op := 182) (v := 161) qLW5 (by decide +kernel) qo182
theorem dL_law_359 : decode cL_law 359 = .ok (.istore 7, 2) := qr1 (P := 320) (o := 39) (op := 54) (v := 7) qLW5 (by decide +kernel) qo54
theorem dL_law_361 : decode cL_law 361 = .ok (.goto 1552, 3) := qr2 (P := 320) (o := 41) (op := 167) (v := 1552) qLW5 (by decide +kernel) (fun h h2 => qo167 h (qs2 h2 (by decide +kernel)))
theorem dL_law_364 : decode cL_law 364 = .ok (.aload_n 1, 1) := qr0 (P := 320) (o := 44) (op := 43) qLW5 (by decide +kernel) qo43
theorem dL_law_365 : decode cL_law 365 = .ok (.aload_n 0, 1) := qr0 (P := 320) (o := 45) (op := 42) qLW5 (by decide +kernel) qo42
theorem dL_law_366 : decode cL_law 366 = .ok (.iload 5, 2) := qr1 (P := 320) (o := 46) (op := 21) (v := 5) qLW5 (by decide +kernel) qo21
theorem dL_law_368 : decode cL_law 368 = .ok (.iconst 1, 1) := qr0 (P := 320) (o := 48) (op := 4) qLW5 (by decide +kernel) qo4
theorem dL_law_369 : decode cL_law 369 = .ok (.iadd, 1) := qr0 (P := 320) (o := 49) (op := 96) qLW5 (by decide +kernel) qo96
theorem dL_law_370 : decode cL_law 370 = .ok (.iaload, 1) := qr0 (P := 320) (o := 50) (op := 46) qLW5 (by decide +kernel) qo46
theorem dL_law_371 : decode cL_law 371 = .ok (.aload_n 3, 1) := qr0 (P := 320) (o := 51) (op := 45) qLW5 (by decide +kernel) qo45
theorem dL_law_372 : decode cL_law 372 = .ok (.invokestatic 162, 3) := qr2 (P := 320) (o := 52) (op := 184) (v := 162) qLW5 (by decide +kernel) qo184
theorem dL_law_375 : decode cL_law 375 = .ok (.istore 6, 2) := qr1 (P := 320) (o := 55) (op := 54) (v := 6) qLW5 (by decide +kernel) qo54
theorem dL_law_377 : decode cL_law 377 = .ok (.aload_n 2, 1) := qr0 (P := 320) (o := 57) (op := 44) qLW5 (by decide +kernel) qo44
theorem dL_law_378 : decode cL_law 378 = .ok (.aload_n 0, 1) := qr0 (P := 320) (o := 58) (op := 42) qLW5 (by decide +kernel) qo42
theorem dL_law_379 : decode cL_law 379 = .ok (.iload 5, 2) := qr1 (P := 320) (o := 59) (op := 21) (v := 5) qLW5 (by decide +kernel) qo21
theorem dL_law_381 : decode cL_law 381 = .ok (.iconst 1, 1) := qr0 (P := 320) (o := 61) (op := 4) qLW5 (by decide +kernel) qo4
theorem dL_law_382 : decode cL_law 382 = .ok (.iadd, 1) := qr0 (P := 320) (o := 62) (op := 96) qLW5 (by decide +kernel) qo96
theorem dL_law_383 : decode cL_law 383 = .ok (.iaload, 1) := qr0 (P := 320) (o := 63) (op := 46) qLW5 (by decide +kernel) qo46
theorem dL_law_384 : decode cL_law 384 = .ok (.invokevirtual 164, 3) := qr2 (P := 384) (o := 0) (op := 182) (v := 164) qLW6 (by decide +kernel) qo182
theorem dL_law_387 : decode cL_law 387 = .ok (.istore 7, 2) := qr1 (P := 384) (o := 3) (op := 54) (v := 7) qLW6 (by decide +kernel) qo54
theorem dL_law_389 : decode cL_law 389 = .ok (.goto 1524, 3) := qr2 (P := 384) (o := 5) (op := 167) (v := 1524) qLW6 (by decide +kernel) (fun h h2 => qo167 h (qs2 h2 (by decide +kernel)))
theorem dL_law_392 : decode cL_law 392 = .ok (.aload_n 1, 1) := qr0 (P := 384) (o := 8) (op := 43) qLW6 (by decide +kernel) qo43
theorem dL_law_393 : decode cL_law 393 = .ok (.invokevirtual 165, 3) := qr2 (P := 384) (o := 9) (op := 182) (v := 165) qLW6 (by decide +kernel) qo182
theorem dL_law_396 : decode cL_law 396 = .ok (.pop, 1) := qr0 (P := 384) (o := 12) (op := 87) qLW6 (by decide +kernel) qo87
theorem dL_law_397 : decode cL_law 397 = .ok (.aload_n 2, 1) := qr0 (P := 384) (o := 13) (op := 44) qLW6 (by decide +kernel) qo44
theorem dL_law_398 : decode cL_law 398 = .ok (.invokevirtual 168, 3) := qr2 (P := 384) (o := 14) (op := 182) (v := 168) qLW6 (by decide +kernel) qo182
theorem dL_law_401 : decode cL_law 401 = .ok (.pop, 1) := qr0 (P := 384) (o := 17) (op := 87) qLW6 (by decide +kernel) qo87
theorem dL_law_402 : decode cL_law 402 = .ok (.goto 1511, 3) := qr2 (P := 384) (o := 18) (op := 167) (v := 1511) qLW6 (by decide +kernel) (fun h h2 => qo167 h (qs2 h2 (by decide +kernel)))
theorem dL_law_405 : decode cL_law 405 = .ok (.aload_n 1, 1) := qr0 (P := 384) (o := 21) (op := 43) qLW6 (by decide +kernel) qo43
theorem dL_law_406 : decode cL_law 406 = .ok (.aload_n 0, 1) := qr0 (P := 384) (o := 22) (op := 42) qLW6 (by decide +kernel) qo42
theorem dL_law_407 : decode cL_law 407 = .ok (.iload 5, 2) := qr1 (P := 384) (o := 23) (op := 21) (v := 5) qLW6 (by decide +kernel) qo21
theorem dL_law_409 : decode cL_law 409 = .ok (.iconst 1, 1) := qr0 (P := 384) (o := 25) (op := 4) qLW6 (by decide +kernel) qo4
theorem dL_law_410 : decode cL_law 410 = .ok (.iadd, 1) := qr0 (P := 384) (o := 26) (op := 96) qLW6 (by decide +kernel) qo96
theorem dL_law_411 : decode cL_law 411 = .ok (.iaload, 1) := qr0 (P := 384) (o := 27) (op := 46) qLW6 (by decide +kernel) qo46
theorem dL_law_412 : decode cL_law 412 = .ok (.aload_n 3, 1) := qr0 (P := 384) (o := 28) (op := 45) qLW6 (by decide +kernel) qo45
theorem dL_law_413 : decode cL_law 413 = .ok (.invokestatic 169, 3) := qr2 (P := 384) (o := 29) (op := 184) (v := 169) qLW6 (by decide +kernel) qo184
theorem dL_law_416 : decode cL_law 416 = .ok (.istore 6, 2) := qr1 (P := 384) (o := 32) (op := 54) (v := 6) qLW6 (by decide +kernel) qo54
theorem dL_law_418 : decode cL_law 418 = .ok (.aload_n 2, 1) := qr0 (P := 384) (o := 34) (op := 44) qLW6 (by decide +kernel) qo44
theorem dL_law_419 : decode cL_law 419 = .ok (.aload_n 0, 1) := qr0 (P := 384) (o := 35) (op := 42) qLW6 (by decide +kernel) qo42
theorem dL_law_420 : decode cL_law 420 = .ok (.iload 5, 2) := qr1 (P := 384) (o := 36) (op := 21) (v := 5) qLW6 (by decide +kernel) qo21
theorem dL_law_422 : decode cL_law 422 = .ok (.iconst 1, 1) := qr0 (P := 384) (o := 38) (op := 4) qLW6 (by decide +kernel) qo4
theorem dL_law_423 : decode cL_law 423 = .ok (.iadd, 1) := qr0 (P := 384) (o := 39) (op := 96) qLW6 (by decide +kernel) qo96
theorem dL_law_424 : decode cL_law 424 = .ok (.iaload, 1) := qr0 (P := 384) (o := 40) (op := 46) qLW6 (by decide +kernel) qo46
theorem dL_law_425 : decode cL_law 425 = .ok (.invokevirtual 171, 3) := qr2 (P := 384) (o := 41) (op := 182) (v := 171) qLW6 (by decide +kernel) qo182
theorem dL_law_428 : decode cL_law 428 = .ok (.istore 7, 2) := qr1 (P := 384) (o := 44) (op := 54) (v := 7) qLW6 (by decide +kernel) qo54
theorem dL_law_430 : decode cL_law 430 = .ok (.goto 1483, 3) := qr2 (P := 384) (o := 46) (op := 167) (v := 1483) qLW6 (by decide +kernel) (fun h h2 => qo167 h (qs2 h2 (by decide +kernel)))
theorem dL_law_433 : decode cL_law 433 = .ok (.aload_n 1, 1) := qr0 (P := 384) (o := 49) (op := 43) qLW6 (by decide +kernel) qo43
theorem dL_law_434 : decode cL_law 434 = .ok (.aload_n 0, 1) := qr0 (P := 384) (o := 50) (op := 42) qLW6 (by decide +kernel) qo42
theorem dL_law_435 : decode cL_law 435 = .ok (.iload 5, 2) := qr1 (P := 384) (o := 51) (op := 21) (v := 5) qLW6 (by decide +kernel) qo21
theorem dL_law_437 : decode cL_law 437 = .ok (.iconst 1, 1) := qr0 (P := 384) (o := 53) (op := 4) qLW6 (by decide +kernel) qo4
theorem dL_law_438 : decode cL_law 438 = .ok (.iadd, 1) := qr0 (P := 384) (o := 54) (op := 96) qLW6 (by decide +kernel) qo96
theorem dL_law_439 : decode cL_law 439 = .ok (.iaload, 1) := qr0 (P := 384) (o := 55) (op := 46) qLW6 (by decide +kernel) qo46
theorem dL_law_440 : decode cL_law 440 = .ok (.aload_n 3, 1) := qr0 (P := 384) (o := 56) (op := 45) qLW6 (by decide +kernel) qo45
theorem dL_law_441 : decode cL_law 441 = .ok (.invokestatic 172, 3) := qr2 (P := 384) (o := 57) (op := 184) (v := 172) qLW6 (by decide +kernel) qo184
theorem dL_law_444 : decode cL_law 444 = .ok (.istore 6, 2) := qr1 (P := 384) (o := 60) (op := 54) (v := 6) qLW6 (by decide +kernel) qo54
theorem dL_law_446 : decode cL_law 446 = .ok (.aload_n 2, 1) := qr0 (P := 384) (o := 62) (op := 44) qLW6 (by decide +kernel) qo44
theorem dL_law_447 : decode cL_law 447 = .ok (.aload_n 0, 1) := qr0 (P := 384) (o := 63) (op := 42) qLW6 (by decide +kernel) qo42
theorem dL_law_448 : decode cL_law 448 = .ok (.iload 5, 2) := qr1 (P := 448) (o := 0) (op := 21) (v := 5) qLW7 (by decide +kernel) qo21
theorem dL_law_450 : decode cL_law 450 = .ok (.iconst 1, 1) := qr0 (P := 448) (o := 2) (op := 4) qLW7 (by decide +kernel) qo4
theorem dL_law_451 : decode cL_law 451 = .ok (.iadd, 1) := qr0 (P := 448) (o := 3) (op := 96) qLW7 (by decide +kernel) qo96
theorem dL_law_452 : decode cL_law 452 = .ok (.iaload, 1) := qr0 (P := 448) (o := 4) (op := 46) qLW7 (by decide +kernel) qo46
theorem dL_law_453 : decode cL_law 453 = .ok (.invokevirtual 174, 3) := qr2 (P := 448) (o := 5) (op := 182) (v := 174) qLW7 (by decide +kernel) qo182
theorem dL_law_456 : decode cL_law 456 = .ok (.istore 7, 2) := qr1 (P := 448) (o := 8) (op := 54) (v := 7) qLW7 (by decide +kernel) qo54
theorem dL_law_458 : decode cL_law 458 = .ok (.goto 1455, 3) := qr2 (P := 448) (o := 10) (op := 167) (v := 1455) qLW7 (by decide +kernel) (fun h h2 => qo167 h (qs2 h2 (by decide +kernel)))
theorem dL_law_461 : decode cL_law 461 = .ok (.aload_n 1, 1) := qr0 (P := 448) (o := 13) (op := 43) qLW7 (by decide +kernel) qo43
theorem dL_law_462 : decode cL_law 462 = .ok (.aload_n 0, 1) := qr0 (P := 448) (o := 14) (op := 42) qLW7 (by decide +kernel) qo42
theorem dL_law_463 : decode cL_law 463 = .ok (.iload 5, 2) := qr1 (P := 448) (o := 15) (op := 21) (v := 5) qLW7 (by decide +kernel) qo21
theorem dL_law_465 : decode cL_law 465 = .ok (.iconst 1, 1) := qr0 (P := 448) (o := 17) (op := 4) qLW7 (by decide +kernel) qo4
theorem dL_law_466 : decode cL_law 466 = .ok (.iadd, 1) := qr0 (P := 448) (o := 18) (op := 96) qLW7 (by decide +kernel) qo96
theorem dL_law_467 : decode cL_law 467 = .ok (.iaload, 1) := qr0 (P := 448) (o := 19) (op := 46) qLW7 (by decide +kernel) qo46
theorem dL_law_468 : decode cL_law 468 = .ok (.aload_n 3, 1) := qr0 (P := 448) (o := 20) (op := 45) qLW7 (by decide +kernel) qo45
theorem dL_law_469 : decode cL_law 469 = .ok (.invokestatic 175, 3) := qr2 (P := 448) (o := 21) (op := 184) (v := 175) qLW7 (by decide +kernel) qo184
theorem dL_law_472 : decode cL_law 472 = .ok (.istore 6, 2) := qr1 (P := 448) (o := 24) (op := 54) (v := 6) qLW7 (by decide +kernel) qo54
theorem dL_law_474 : decode cL_law 474 = .ok (.aload_n 2, 1) := qr0 (P := 448) (o := 26) (op := 44) qLW7 (by decide +kernel) qo44
theorem dL_law_475 : decode cL_law 475 = .ok (.aload_n 0, 1) := qr0 (P := 448) (o := 27) (op := 42) qLW7 (by decide +kernel) qo42
theorem dL_law_476 : decode cL_law 476 = .ok (.iload 5, 2) := qr1 (P := 448) (o := 28) (op := 21) (v := 5) qLW7 (by decide +kernel) qo21
theorem dL_law_478 : decode cL_law 478 = .ok (.iconst 1, 1) := qr0 (P := 448) (o := 30) (op := 4) qLW7 (by decide +kernel) qo4
theorem dL_law_479 : decode cL_law 479 = .ok (.iadd, 1) := qr0 (P := 448) (o := 31) (op := 96) qLW7 (by decide +kernel) qo96
theorem dL_law_480 : decode cL_law 480 = .ok (.iaload, 1) := qr0 (P := 448) (o := 32) (op := 46) qLW7 (by decide +kernel) qo46
theorem dL_law_481 : decode cL_law 481 = .ok (.invokevirtual 177, 3) := qr2 (P := 448) (o := 33) (op := 182) (v := 177) qLW7 (by decide +kernel) qo182
theorem dL_law_484 : decode cL_law 484 = .ok (.istore 7, 2) := qr1 (P := 448) (o := 36) (op := 54) (v := 7) qLW7 (by decide +kernel) qo54
theorem dL_law_486 : decode cL_law 486 = .ok (.goto 1427, 3) := qr2 (P := 448) (o := 38) (op := 167) (v := 1427) qLW7 (by decide +kernel) (fun h h2 => qo167 h (qs2 h2 (by decide +kernel)))
theorem dL_law_489 : decode cL_law 489 = .ok (.aload_n 1, 1) := qr0 (P := 448) (o := 41) (op := 43) qLW7 (by decide +kernel) qo43
theorem dL_law_490 : decode cL_law 490 = .ok (.aload_n 0, 1) := qr0 (P := 448) (o := 42) (op := 42) qLW7 (by decide +kernel) qo42
theorem dL_law_491 : decode cL_law 491 = .ok (.iload 5, 2) := qr1 (P := 448) (o := 43) (op := 21) (v := 5) qLW7 (by decide +kernel) qo21
theorem dL_law_493 : decode cL_law 493 = .ok (.iconst 1, 1) := qr0 (P := 448) (o := 45) (op := 4) qLW7 (by decide +kernel) qo4
theorem dL_law_494 : decode cL_law 494 = .ok (.iadd, 1) := qr0 (P := 448) (o := 46) (op := 96) qLW7 (by decide +kernel) qo96
theorem dL_law_495 : decode cL_law 495 = .ok (.iaload, 1) := qr0 (P := 448) (o := 47) (op := 46) qLW7 (by decide +kernel) qo46
theorem dL_law_496 : decode cL_law 496 = .ok (.aload_n 0, 1) := qr0 (P := 448) (o := 48) (op := 42) qLW7 (by decide +kernel) qo42
theorem dL_law_497 : decode cL_law 497 = .ok (.iload 5, 2) := qr1 (P := 448) (o := 49) (op := 21) (v := 5) qLW7 (by decide +kernel) qo21
theorem dL_law_499 : decode cL_law 499 = .ok (.iconst 2, 1) := qr0 (P := 448) (o := 51) (op := 5) qLW7 (by decide +kernel) qo5
theorem dL_law_500 : decode cL_law 500 = .ok (.iadd, 1) := qr0 (P := 448) (o := 52) (op := 96) qLW7 (by decide +kernel) qo96
theorem dL_law_501 : decode cL_law 501 = .ok (.iaload, 1) := qr0 (P := 448) (o := 53) (op := 46) qLW7 (by decide +kernel) qo46
theorem dL_law_502 : decode cL_law 502 = .ok (.aload_n 3, 1) := qr0 (P := 448) (o := 54) (op := 45) qLW7 (by decide +kernel) qo45
theorem dL_law_503 : decode cL_law 503 = .ok (.invokestatic 178, 3) := qr2 (P := 448) (o := 55) (op := 184) (v := 178) qLW7 (by decide +kernel) qo184
theorem dL_law_506 : decode cL_law 506 = .ok (.istore 6, 2) := qr1 (P := 448) (o := 58) (op := 54) (v := 6) qLW7 (by decide +kernel) qo54
theorem dL_law_508 : decode cL_law 508 = .ok (.aload_n 2, 1) := qr0 (P := 448) (o := 60) (op := 44) qLW7 (by decide +kernel) qo44
theorem dL_law_509 : decode cL_law 509 = .ok (.aload_n 0, 1) := qr0 (P := 448) (o := 61) (op := 42) qLW7 (by decide +kernel) qo42
theorem dL_law_510 : decode cL_law 510 = .ok (.iload 5, 2) := qr1 (P := 448) (o := 62) (op := 21) (v := 5) qLW7 (by decide +kernel) qo21
theorem dL_law_512 : decode cL_law 512 = .ok (.iconst 1, 1) := qr0 (P := 512) (o := 0) (op := 4) qLW8 (by decide +kernel) qo4
theorem dL_law_513 : decode cL_law 513 = .ok (.iadd, 1) := qr0 (P := 512) (o := 1) (op := 96) qLW8 (by decide +kernel) qo96
theorem dL_law_514 : decode cL_law 514 = .ok (.iaload, 1) := qr0 (P := 512) (o := 2) (op := 46) qLW8 (by decide +kernel) qo46
theorem dL_law_515 : decode cL_law 515 = .ok (.aload_n 0, 1) := qr0 (P := 512) (o := 3) (op := 42) qLW8 (by decide +kernel) qo42
theorem dL_law_516 : decode cL_law 516 = .ok (.iload 5, 2) := qr1 (P := 512) (o := 4) (op := 21) (v := 5) qLW8 (by decide +kernel) qo21
theorem dL_law_518 : decode cL_law 518 = .ok (.iconst 2, 1) := qr0 (P := 512) (o := 6) (op := 5) qLW8 (by decide +kernel) qo5
theorem dL_law_519 : decode cL_law 519 = .ok (.iadd, 1) := qr0 (P := 512) (o := 7) (op := 96) qLW8 (by decide +kernel) qo96
theorem dL_law_520 : decode cL_law 520 = .ok (.iaload, 1) := qr0 (P := 512) (o := 8) (op := 46) qLW8 (by decide +kernel) qo46
theorem dL_law_521 : decode cL_law 521 = .ok (.invokevirtual 181, 3) := qr2 (P := 512) (o := 9) (op := 182) (v := 181) qLW8 (by decide +kernel) qo182
theorem dL_law_524 : decode cL_law 524 = .ok (.istore 7, 2) := qr1 (P := 512) (o := 12) (op := 54) (v := 7) qLW8 (by decide +kernel) qo54
theorem dL_law_526 : decode cL_law 526 = .ok (.goto 1387, 3) := qr2 (P := 512) (o := 14) (op := 167) (v := 1387) qLW8 (by decide +kernel) (fun h h2 => qo167 h (qs2 h2 (by decide +kernel)))
theorem dL_law_529 : decode cL_law 529 = .ok (.aload_n 1, 1) := qr0 (P := 512) (o := 17) (op := 43) qLW8 (by decide +kernel) qo43
theorem dL_law_530 : decode cL_law 530 = .ok (.aload_n 0, 1) := qr0 (P := 512) (o := 18) (op := 42) qLW8 (by decide +kernel) qo42
theorem dL_law_531 : decode cL_law 531 = .ok (.iload 5, 2) := qr1 (P := 512) (o := 19) (op := 21) (v := 5) qLW8 (by decide +kernel) qo21
theorem dL_law_533 : decode cL_law 533 = .ok (.iconst 1, 1) := qr0 (P := 512) (o := 21) (op := 4) qLW8 (by decide +kernel) qo4
theorem dL_law_534 : decode cL_law 534 = .ok (.iadd, 1) := qr0 (P := 512) (o := 22) (op := 96) qLW8 (by decide +kernel) qo96
theorem dL_law_535 : decode cL_law 535 = .ok (.iaload, 1) := qr0 (P := 512) (o := 23) (op := 46) qLW8 (by decide +kernel) qo46
theorem dL_law_536 : decode cL_law 536 = .ok (.ifCond .eq 7, 3) := qr2 (P := 512) (o := 24) (op := 153) (v := 7) qLW8 (by decide +kernel) (fun h h2 => qo153 h (qs2 h2 (by decide +kernel)))
theorem dL_law_539 : decode cL_law 539 = .ok (.iconst 1, 1) := qr0 (P := 512) (o := 27) (op := 4) qLW8 (by decide +kernel) qo4
theorem dL_law_540 : decode cL_law 540 = .ok (.goto 4, 3) := qr2 (P := 512) (o := 28) (op := 167) (v := 4) qLW8 (by decide +kernel) (fun h h2 => qo167 h (qs2 h2 (by decide +kernel)))
theorem dL_law_543 : decode cL_law 543 = .ok (.iconst 0, 1) := qr0 (P := 512) (o := 31) (op := 3) qLW8 (by decide +kernel) qo3
theorem dL_law_544 : decode cL_law 544 = .ok (.invokevirtual 182, 3) := qr2 (P := 512) (o := 32) (op := 182) (v := 182) qLW8 (by decide +kernel) qo182
theorem dL_law_547 : decode cL_law 547 = .ok (.pop, 1) := qr0 (P := 512) (o := 35) (op := 87) qLW8 (by decide +kernel) qo87
theorem dL_law_548 : decode cL_law 548 = .ok (.aload_n 2, 1) := qr0 (P := 512) (o := 36) (op := 44) qLW8 (by decide +kernel) qo44
theorem dL_law_549 : decode cL_law 549 = .ok (.aload_n 0, 1) := qr0 (P := 512) (o := 37) (op := 42) qLW8 (by decide +kernel) qo42
theorem dL_law_550 : decode cL_law 550 = .ok (.iload 5, 2) := qr1 (P := 512) (o := 38) (op := 21) (v := 5) qLW8 (by decide +kernel) qo21
theorem dL_law_552 : decode cL_law 552 = .ok (.iconst 1, 1) := qr0 (P := 512) (o := 40) (op := 4) qLW8 (by decide +kernel) qo4
theorem dL_law_553 : decode cL_law 553 = .ok (.iadd, 1) := qr0 (P := 512) (o := 41) (op := 96) qLW8 (by decide +kernel) qo96
theorem dL_law_554 : decode cL_law 554 = .ok (.iaload, 1) := qr0 (P := 512) (o := 42) (op := 46) qLW8 (by decide +kernel) qo46
theorem dL_law_555 : decode cL_law 555 = .ok (.ifCond .eq 7, 3) := qr2 (P := 512) (o := 43) (op := 153) (v := 7) qLW8 (by decide +kernel) (fun h h2 => qo153 h (qs2 h2 (by decide +kernel)))
theorem dL_law_558 : decode cL_law 558 = .ok (.iconst 1, 1) := qr0 (P := 512) (o := 46) (op := 4) qLW8 (by decide +kernel) qo4
theorem dL_law_559 : decode cL_law 559 = .ok (.goto 4, 3) := qr2 (P := 512) (o := 47) (op := 167) (v := 4) qLW8 (by decide +kernel) (fun h h2 => qo167 h (qs2 h2 (by decide +kernel)))
theorem dL_law_562 : decode cL_law 562 = .ok (.iconst 0, 1) := qr0 (P := 512) (o := 50) (op := 3) qLW8 (by decide +kernel) qo3
theorem dL_law_563 : decode cL_law 563 = .ok (.invokevirtual 186, 3) := qr2 (P := 512) (o := 51) (op := 182) (v := 186) qLW8 (by decide +kernel) qo182
theorem dL_law_566 : decode cL_law 566 = .ok (.pop, 1) := qr0 (P := 512) (o := 54) (op := 87) qLW8 (by decide +kernel) qo87
theorem dL_law_567 : decode cL_law 567 = .ok (.goto 1346, 3) := qr2 (P := 512) (o := 55) (op := 167) (v := 1346) qLW8 (by decide +kernel) (fun h h2 => qo167 h (qs2 h2 (by decide +kernel)))
theorem dL_law_570 : decode cL_law 570 = .ok (.aload_n 1, 1) := qr0 (P := 512) (o := 58) (op := 43) qLW8 (by decide +kernel) qo43
theorem dL_law_571 : decode cL_law 571 = .ok (.aload_n 0, 1) := qr0 (P := 512) (o := 59) (op := 42) qLW8 (by decide +kernel) qo42
theorem dL_law_572 : decode cL_law 572 = .ok (.iload 5, 2) := qr1 (P := 512) (o := 60) (op := 21) (v := 5) qLW8 (by decide +kernel) qo21
theorem dL_law_574 : decode cL_law 574 = .ok (.iconst 1, 1) := qr0 (P := 512) (o := 62) (op := 4) qLW8 (by decide +kernel) qo4
theorem dL_law_575 : decode cL_law 575 = .ok (.iadd, 1) := qr0 (P := 512) (o := 63) (op := 96) qLW8 (by decide +kernel) qo96
theorem dL_law_576 : decode cL_law 576 = .ok (.iaload, 1) := qr0 (P := 576) (o := 0) (op := 46) qLW9 (by decide +kernel) qo46
theorem dL_law_577 : decode cL_law 577 = .ok (.aload_n 3, 1) := qr0 (P := 576) (o := 1) (op := 45) qLW9 (by decide +kernel) qo45
theorem dL_law_578 : decode cL_law 578 = .ok (.invokestatic 187, 3) := qr2 (P := 576) (o := 2) (op := 184) (v := 187) qLW9 (by decide +kernel) qo184
theorem dL_law_581 : decode cL_law 581 = .ok (.istore 6, 2) := qr1 (P := 576) (o := 5) (op := 54) (v := 6) qLW9 (by decide +kernel) qo54
theorem dL_law_583 : decode cL_law 583 = .ok (.aload_n 2, 1) := qr0 (P := 576) (o := 7) (op := 44) qLW9 (by decide +kernel) qo44
theorem dL_law_584 : decode cL_law 584 = .ok (.aload_n 0, 1) := qr0 (P := 576) (o := 8) (op := 42) qLW9 (by decide +kernel) qo42
theorem dL_law_585 : decode cL_law 585 = .ok (.iload 5, 2) := qr1 (P := 576) (o := 9) (op := 21) (v := 5) qLW9 (by decide +kernel) qo21
theorem dL_law_587 : decode cL_law 587 = .ok (.iconst 1, 1) := qr0 (P := 576) (o := 11) (op := 4) qLW9 (by decide +kernel) qo4
theorem dL_law_588 : decode cL_law 588 = .ok (.iadd, 1) := qr0 (P := 576) (o := 12) (op := 96) qLW9 (by decide +kernel) qo96
theorem dL_law_589 : decode cL_law 589 = .ok (.iaload, 1) := qr0 (P := 576) (o := 13) (op := 46) qLW9 (by decide +kernel) qo46
theorem dL_law_590 : decode cL_law 590 = .ok (.invokevirtual 189, 3) := qr2 (P := 576) (o := 14) (op := 182) (v := 189) qLW9 (by decide +kernel) qo182
theorem dL_law_593 : decode cL_law 593 = .ok (.istore 7, 2) := qr1 (P := 576) (o := 17) (op := 54) (v := 7) qLW9 (by decide +kernel) qo54
theorem dL_law_595 : decode cL_law 595 = .ok (.goto 1318, 3) := qr2 (P := 576) (o := 19) (op := 167) (v := 1318) qLW9 (by decide +kernel) (fun h h2 => qo167 h (qs2 h2 (by decide +kernel)))
theorem dL_law_598 : decode cL_law 598 = .ok (.aload_n 1, 1) := qr0 (P := 576) (o := 22) (op := 43) qLW9 (by decide +kernel) qo43
theorem dL_law_599 : decode cL_law 599 = .ok (.aload_n 0, 1) := qr0 (P := 576) (o := 23) (op := 42) qLW9 (by decide +kernel) qo42
theorem dL_law_600 : decode cL_law 600 = .ok (.iload 5, 2) := qr1 (P := 576) (o := 24) (op := 21) (v := 5) qLW9 (by decide +kernel) qo21
theorem dL_law_602 : decode cL_law 602 = .ok (.iconst 1, 1) := qr0 (P := 576) (o := 26) (op := 4) qLW9 (by decide +kernel) qo4
theorem dL_law_603 : decode cL_law 603 = .ok (.iadd, 1) := qr0 (P := 576) (o := 27) (op := 96) qLW9 (by decide +kernel) qo96
theorem dL_law_604 : decode cL_law 604 = .ok (.iaload, 1) := qr0 (P := 576) (o := 28) (op := 46) qLW9 (by decide +kernel) qo46
theorem dL_law_605 : decode cL_law 605 = .ok (.ifCond .eq 7, 3) := qr2 (P := 576) (o := 29) (op := 153) (v := 7) qLW9 (by decide +kernel) (fun h h2 => qo153 h (qs2 h2 (by decide +kernel)))
theorem dL_law_608 : decode cL_law 608 = .ok (.iconst 1, 1) := qr0 (P := 576) (o := 32) (op := 4) qLW9 (by decide +kernel) qo4
theorem dL_law_609 : decode cL_law 609 = .ok (.goto 4, 3) := qr2 (P := 576) (o := 33) (op := 167) (v := 4) qLW9 (by decide +kernel) (fun h h2 => qo167 h (qs2 h2 (by decide +kernel)))
theorem dL_law_612 : decode cL_law 612 = .ok (.iconst 0, 1) := qr0 (P := 576) (o := 36) (op := 3) qLW9 (by decide +kernel) qo3
theorem dL_law_613 : decode cL_law 613 = .ok (.invokevirtual 190, 3) := qr2 (P := 576) (o := 37) (op := 182) (v := 190) qLW9 (by decide +kernel) qo182
theorem dL_law_616 : decode cL_law 616 = .ok (.aload_n 2, 1) := qr0 (P := 576) (o := 40) (op := 44) qLW9 (by decide +kernel) qo44
theorem dL_law_617 : decode cL_law 617 = .ok (.aload_n 0, 1) := qr0 (P := 576) (o := 41) (op := 42) qLW9 (by decide +kernel) qo42
theorem dL_law_618 : decode cL_law 618 = .ok (.iload 5, 2) := qr1 (P := 576) (o := 42) (op := 21) (v := 5) qLW9 (by decide +kernel) qo21
theorem dL_law_620 : decode cL_law 620 = .ok (.iconst 1, 1) := qr0 (P := 576) (o := 44) (op := 4) qLW9 (by decide +kernel) qo4
theorem dL_law_621 : decode cL_law 621 = .ok (.iadd, 1) := qr0 (P := 576) (o := 45) (op := 96) qLW9 (by decide +kernel) qo96
theorem dL_law_622 : decode cL_law 622 = .ok (.iaload, 1) := qr0 (P := 576) (o := 46) (op := 46) qLW9 (by decide +kernel) qo46
theorem dL_law_623 : decode cL_law 623 = .ok (.ifCond .eq 7, 3) := qr2 (P := 576) (o := 47) (op := 153) (v := 7) qLW9 (by decide +kernel) (fun h h2 => qo153 h (qs2 h2 (by decide +kernel)))
theorem dL_law_626 : decode cL_law 626 = .ok (.iconst 1, 1) := qr0 (P := 576) (o := 50) (op := 4) qLW9 (by decide +kernel) qo4
theorem dL_law_627 : decode cL_law 627 = .ok (.goto 4, 3) := qr2 (P := 576) (o := 51) (op := 167) (v := 4) qLW9 (by decide +kernel) (fun h h2 => qo167 h (qs2 h2 (by decide +kernel)))
theorem dL_law_630 : decode cL_law 630 = .ok (.iconst 0, 1) := qr0 (P := 576) (o := 54) (op := 3) qLW9 (by decide +kernel) qo3
theorem dL_law_631 : decode cL_law 631 = .ok (.invokevirtual 194, 3) := qr2 (P := 576) (o := 55) (op := 182) (v := 194) qLW9 (by decide +kernel) qo182
theorem dL_law_634 : decode cL_law 634 = .ok (.if_icmp .eq 1279, 3) := qr2 (P := 576) (o := 58) (op := 159) (v := 1279) qLW9 (by decide +kernel) (fun h h2 => qo159 h (qs2 h2 (by decide +kernel)))
theorem dL_law_637 : decode cL_law 637 = .ok (.iconst 0, 1) := qr0 (P := 576) (o := 61) (op := 3) qLW9 (by decide +kernel) qo3
theorem dL_law_638 : decode cL_law 638 = .ok (.ireturn, 1) := qr0 (P := 576) (o := 62) (op := 172) qLW9 (by decide +kernel) qo172
theorem dL_law_639 : decode cL_law 639 = .ok (.aload_n 1, 1) := qr0 (P := 576) (o := 63) (op := 43) qLW9 (by decide +kernel) qo43
theorem dL_law_640 : decode cL_law 640 = .ok (.invokevirtual 195, 3) := qr2 (P := 640) (o := 0) (op := 182) (v := 195) qLW10 (by decide +kernel) qo182
theorem dL_law_643 : decode cL_law 643 = .ok (.pop, 1) := qr0 (P := 640) (o := 3) (op := 87) qLW10 (by decide +kernel) qo87
theorem dL_law_644 : decode cL_law 644 = .ok (.aload_n 2, 1) := qr0 (P := 640) (o := 4) (op := 44) qLW10 (by decide +kernel) qo44
theorem dL_law_645 : decode cL_law 645 = .ok (.invokevirtual 198, 3) := qr2 (P := 640) (o := 5) (op := 182) (v := 198) qLW10 (by decide +kernel) qo182
theorem dL_law_648 : decode cL_law 648 = .ok (.pop, 1) := qr0 (P := 640) (o := 8) (op := 87) qLW10 (by decide +kernel) qo87
theorem dL_law_649 : decode cL_law 649 = .ok (.goto 1264, 3) := qr2 (P := 640) (o := 9) (op := 167) (v := 1264) qLW10 (by decide +kernel) (fun h h2 => qo167 h (qs2 h2 (by decide +kernel)))
theorem dL_law_652 : decode cL_law 652 = .ok (.aload_n 1, 1) := qr0 (P := 640) (o := 12) (op := 43) qLW10 (by decide +kernel) qo43
theorem dL_law_653 : decode cL_law 653 = .ok (.aload_n 3, 1) := qr0 (P := 640) (o := 13) (op := 45) qLW10 (by decide +kernel) qo45
theorem dL_law_654 : decode cL_law 654 = .ok (.invokestatic 199, 3) := qr2 (P := 640) (o := 14) (op := 184) (v := 199) qLW10 (by decide +kernel) qo184
theorem dL_law_657 : decode cL_law 657 = .ok (.istore 6, 2) := qr1 (P := 640) (o := 17) (op := 54) (v := 6) qLW10 (by decide +kernel) qo54
theorem dL_law_659 : decode cL_law 659 = .ok (.aload_n 2, 1) := qr0 (P := 640) (o := 19) (op := 44) qLW10 (by decide +kernel) qo44
theorem dL_law_660 : decode cL_law 660 = .ok (.invokevirtual 202, 3) := qr2 (P := 640) (o := 20) (op := 182) (v := 202) qLW10 (by decide +kernel) qo182
theorem dL_law_663 : decode cL_law 663 = .ok (.istore 7, 2) := qr1 (P := 640) (o := 23) (op := 54) (v := 7) qLW10 (by decide +kernel) qo54
theorem dL_law_665 : decode cL_law 665 = .ok (.goto 1248, 3) := qr2 (P := 640) (o := 25) (op := 167) (v := 1248) qLW10 (by decide +kernel) (fun h h2 => qo167 h (qs2 h2 (by decide +kernel)))
theorem dL_law_668 : decode cL_law 668 = .ok (.aload_n 1, 1) := qr0 (P := 640) (o := 28) (op := 43) qLW10 (by decide +kernel) qo43
theorem dL_law_669 : decode cL_law 669 = .ok (.aload_n 0, 1) := qr0 (P := 640) (o := 29) (op := 42) qLW10 (by decide +kernel) qo42
theorem dL_law_670 : decode cL_law 670 = .ok (.iload 5, 2) := qr1 (P := 640) (o := 30) (op := 21) (v := 5) qLW10 (by decide +kernel) qo21
theorem dL_law_672 : decode cL_law 672 = .ok (.iconst 1, 1) := qr0 (P := 640) (o := 32) (op := 4) qLW10 (by decide +kernel) qo4
theorem dL_law_673 : decode cL_law 673 = .ok (.iadd, 1) := qr0 (P := 640) (o := 33) (op := 96) qLW10 (by decide +kernel) qo96
theorem dL_law_674 : decode cL_law 674 = .ok (.iaload, 1) := qr0 (P := 640) (o := 34) (op := 46) qLW10 (by decide +kernel) qo46
theorem dL_law_675 : decode cL_law 675 = .ok (.aload_n 0, 1) := qr0 (P := 640) (o := 35) (op := 42) qLW10 (by decide +kernel) qo42
theorem dL_law_676 : decode cL_law 676 = .ok (.iload 5, 2) := qr1 (P := 640) (o := 36) (op := 21) (v := 5) qLW10 (by decide +kernel) qo21
theorem dL_law_678 : decode cL_law 678 = .ok (.iconst 2, 1) := qr0 (P := 640) (o := 38) (op := 5) qLW10 (by decide +kernel) qo5
theorem dL_law_679 : decode cL_law 679 = .ok (.iadd, 1) := qr0 (P := 640) (o := 39) (op := 96) qLW10 (by decide +kernel) qo96
theorem dL_law_680 : decode cL_law 680 = .ok (.iaload, 1) := qr0 (P := 640) (o := 40) (op := 46) qLW10 (by decide +kernel) qo46
theorem dL_law_681 : decode cL_law 681 = .ok (.aload_n 0, 1) := qr0 (P := 640) (o := 41) (op := 42) qLW10 (by decide +kernel) qo42
theorem dL_law_682 : decode cL_law 682 = .ok (.iload 5, 2) := qr1 (P := 640) (o := 42) (op := 21) (v := 5) qLW10 (by decide +kernel) qo21
theorem dL_law_684 : decode cL_law 684 = .ok (.iconst 3, 1) := qr0 (P := 640) (o := 44) (op := 6) qLW10 (by decide +kernel) qo6
theorem dL_law_685 : decode cL_law 685 = .ok (.iadd, 1) := qr0 (P := 640) (o := 45) (op := 96) qLW10 (by decide +kernel) qo96
theorem dL_law_686 : decode cL_law 686 = .ok (.iaload, 1) := qr0 (P := 640) (o := 46) (op := 46) qLW10 (by decide +kernel) qo46
theorem dL_law_687 : decode cL_law 687 = .ok (.aload_n 0, 1) := qr0 (P := 640) (o := 47) (op := 42) qLW10 (by decide +kernel) qo42
theorem dL_law_688 : decode cL_law 688 = .ok (.iload 5, 2) := qr1 (P := 640) (o := 48) (op := 21) (v := 5) qLW10 (by decide +kernel) qo21
theorem dL_law_690 : decode cL_law 690 = .ok (.iconst 4, 1) := qr0 (P := 640) (o := 50) (op := 7) qLW10 (by decide +kernel) qo7
theorem dL_law_691 : decode cL_law 691 = .ok (.iadd, 1) := qr0 (P := 640) (o := 51) (op := 96) qLW10 (by decide +kernel) qo96
theorem dL_law_692 : decode cL_law 692 = .ok (.iaload, 1) := qr0 (P := 640) (o := 52) (op := 46) qLW10 (by decide +kernel) qo46
theorem dL_law_693 : decode cL_law 693 = .ok (.i2c, 1) := qr0 (P := 640) (o := 53) (op := 146) qLW10 (by decide +kernel) qo146
theorem dL_law_694 : decode cL_law 694 = .ok (.aload_n 3, 1) := qr0 (P := 640) (o := 54) (op := 45) qLW10 (by decide +kernel) qo45
theorem dL_law_695 : decode cL_law 695 = .ok (.invokestatic 203, 3) := qr2 (P := 640) (o := 55) (op := 184) (v := 203) qLW10 (by decide +kernel) qo184
theorem dL_law_698 : decode cL_law 698 = .ok (.istore 6, 2) := qr1 (P := 640) (o := 58) (op := 54) (v := 6) qLW10 (by decide +kernel) qo54
theorem dL_law_700 : decode cL_law 700 = .ok (.aload_n 2, 1) := qr0 (P := 640) (o := 60) (op := 44) qLW10 (by decide +kernel) qo44
theorem dL_law_701 : decode cL_law 701 = .ok (.aload_n 0, 1) := qr0 (P := 640) (o := 61) (op := 42) qLW10 (by decide +kernel) qo42
theorem dL_law_702 : decode cL_law 702 = .ok (.iload 5, 2) := qr1 (P := 640) (o := 62) (op := 21) (v := 5) qLW10 (by decide +kernel) qo21
theorem dL_law_704 : decode cL_law 704 = .ok (.iconst 1, 1) := qr0 (P := 704) (o := 0) (op := 4) qLW11 (by decide +kernel) qo4
theorem dL_law_705 : decode cL_law 705 = .ok (.iadd, 1) := qr0 (P := 704) (o := 1) (op := 96) qLW11 (by decide +kernel) qo96
theorem dL_law_706 : decode cL_law 706 = .ok (.iaload, 1) := qr0 (P := 704) (o := 2) (op := 46) qLW11 (by decide +kernel) qo46
theorem dL_law_707 : decode cL_law 707 = .ok (.aload_n 0, 1) := qr0 (P := 704) (o := 3) (op := 42) qLW11 (by decide +kernel) qo42
theorem dL_law_708 : decode cL_law 708 = .ok (.iload 5, 2) := qr1 (P := 704) (o := 4) (op := 21) (v := 5) qLW11 (by decide +kernel) qo21
theorem dL_law_710 : decode cL_law 710 = .ok (.iconst 2, 1) := qr0 (P := 704) (o := 6) (op := 5) qLW11 (by decide +kernel) qo5
theorem dL_law_711 : decode cL_law 711 = .ok (.iadd, 1) := qr0 (P := 704) (o := 7) (op := 96) qLW11 (by decide +kernel) qo96
theorem dL_law_712 : decode cL_law 712 = .ok (.iaload, 1) := qr0 (P := 704) (o := 8) (op := 46) qLW11 (by decide +kernel) qo46
theorem dL_law_713 : decode cL_law 713 = .ok (.aload_n 0, 1) := qr0 (P := 704) (o := 9) (op := 42) qLW11 (by decide +kernel) qo42
theorem dL_law_714 : decode cL_law 714 = .ok (.iload 5, 2) := qr1 (P := 704) (o := 10) (op := 21) (v := 5) qLW11 (by decide +kernel) qo21
theorem dL_law_716 : decode cL_law 716 = .ok (.iconst 3, 1) := qr0 (P := 704) (o := 12) (op := 6) qLW11 (by decide +kernel) qo6
theorem dL_law_717 : decode cL_law 717 = .ok (.iadd, 1) := qr0 (P := 704) (o := 13) (op := 96) qLW11 (by decide +kernel) qo96
theorem dL_law_718 : decode cL_law 718 = .ok (.iaload, 1) := qr0 (P := 704) (o := 14) (op := 46) qLW11 (by decide +kernel) qo46
theorem dL_law_719 : decode cL_law 719 = .ok (.aload_n 0, 1) := qr0 (P := 704) (o := 15) (op := 42) qLW11 (by decide +kernel) qo42
theorem dL_law_720 : decode cL_law 720 = .ok (.iload 5, 2) := qr1 (P := 704) (o := 16) (op := 21) (v := 5) qLW11 (by decide +kernel) qo21
theorem dL_law_722 : decode cL_law 722 = .ok (.iconst 4, 1) := qr0 (P := 704) (o := 18) (op := 7) qLW11 (by decide +kernel) qo7
theorem dL_law_723 : decode cL_law 723 = .ok (.iadd, 1) := qr0 (P := 704) (o := 19) (op := 96) qLW11 (by decide +kernel) qo96
theorem dL_law_724 : decode cL_law 724 = .ok (.iaload, 1) := qr0 (P := 704) (o := 20) (op := 46) qLW11 (by decide +kernel) qo46
theorem dL_law_725 : decode cL_law 725 = .ok (.i2c, 1) := qr0 (P := 704) (o := 21) (op := 146) qLW11 (by decide +kernel) qo146
theorem dL_law_726 : decode cL_law 726 = .ok (.invokevirtual 206, 3) := qr2 (P := 704) (o := 22) (op := 182) (v := 206) qLW11 (by decide +kernel) qo182
theorem dL_law_729 : decode cL_law 729 = .ok (.istore 7, 2) := qr1 (P := 704) (o := 25) (op := 54) (v := 7) qLW11 (by decide +kernel) qo54
theorem dL_law_731 : decode cL_law 731 = .ok (.goto 1182, 3) := qr2 (P := 704) (o := 27) (op := 167) (v := 1182) qLW11 (by decide +kernel) (fun h h2 => qo167 h (qs2 h2 (by decide +kernel)))
theorem dL_law_734 : decode cL_law 734 = .ok (.aload_n 1, 1) := qr0 (P := 704) (o := 30) (op := 43) qLW11 (by decide +kernel) qo43
theorem dL_law_735 : decode cL_law 735 = .ok (.aload_n 0, 1) := qr0 (P := 704) (o := 31) (op := 42) qLW11 (by decide +kernel) qo42
theorem dL_law_736 : decode cL_law 736 = .ok (.iload 5, 2) := qr1 (P := 704) (o := 32) (op := 21) (v := 5) qLW11 (by decide +kernel) qo21
theorem dL_law_738 : decode cL_law 738 = .ok (.iconst 1, 1) := qr0 (P := 704) (o := 34) (op := 4) qLW11 (by decide +kernel) qo4
theorem dL_law_739 : decode cL_law 739 = .ok (.iadd, 1) := qr0 (P := 704) (o := 35) (op := 96) qLW11 (by decide +kernel) qo96
theorem dL_law_740 : decode cL_law 740 = .ok (.iaload, 1) := qr0 (P := 704) (o := 36) (op := 46) qLW11 (by decide +kernel) qo46
theorem dL_law_741 : decode cL_law 741 = .ok (.aload_n 0, 1) := qr0 (P := 704) (o := 37) (op := 42) qLW11 (by decide +kernel) qo42
theorem dL_law_742 : decode cL_law 742 = .ok (.iload 5, 2) := qr1 (P := 704) (o := 38) (op := 21) (v := 5) qLW11 (by decide +kernel) qo21
theorem dL_law_744 : decode cL_law 744 = .ok (.iconst 2, 1) := qr0 (P := 704) (o := 40) (op := 5) qLW11 (by decide +kernel) qo5
theorem dL_law_745 : decode cL_law 745 = .ok (.iadd, 1) := qr0 (P := 704) (o := 41) (op := 96) qLW11 (by decide +kernel) qo96
theorem dL_law_746 : decode cL_law 746 = .ok (.iaload, 1) := qr0 (P := 704) (o := 42) (op := 46) qLW11 (by decide +kernel) qo46
theorem dL_law_747 : decode cL_law 747 = .ok (.aload_n 0, 1) := qr0 (P := 704) (o := 43) (op := 42) qLW11 (by decide +kernel) qo42
theorem dL_law_748 : decode cL_law 748 = .ok (.iload 5, 2) := qr1 (P := 704) (o := 44) (op := 21) (v := 5) qLW11 (by decide +kernel) qo21
theorem dL_law_750 : decode cL_law 750 = .ok (.iconst 3, 1) := qr0 (P := 704) (o := 46) (op := 6) qLW11 (by decide +kernel) qo6
theorem dL_law_751 : decode cL_law 751 = .ok (.iadd, 1) := qr0 (P := 704) (o := 47) (op := 96) qLW11 (by decide +kernel) qo96
theorem dL_law_752 : decode cL_law 752 = .ok (.iaload, 1) := qr0 (P := 704) (o := 48) (op := 46) qLW11 (by decide +kernel) qo46
theorem dL_law_753 : decode cL_law 753 = .ok (.aload_n 3, 1) := qr0 (P := 704) (o := 49) (op := 45) qLW11 (by decide +kernel) qo45
theorem dL_law_754 : decode cL_law 754 = .ok (.invokestatic 207, 3) := qr2 (P := 704) (o := 50) (op := 184) (v := 207) qLW11 (by decide +kernel) qo184
theorem dL_law_757 : decode cL_law 757 = .ok (.istore 6, 2) := qr1 (P := 704) (o := 53) (op := 54) (v := 6) qLW11 (by decide +kernel) qo54
theorem dL_law_759 : decode cL_law 759 = .ok (.aload_n 2, 1) := qr0 (P := 704) (o := 55) (op := 44) qLW11 (by decide +kernel) qo44
theorem dL_law_760 : decode cL_law 760 = .ok (.aload_n 0, 1) := qr0 (P := 704) (o := 56) (op := 42) qLW11 (by decide +kernel) qo42
theorem dL_law_761 : decode cL_law 761 = .ok (.iload 5, 2) := qr1 (P := 704) (o := 57) (op := 21) (v := 5) qLW11 (by decide +kernel) qo21
theorem dL_law_763 : decode cL_law 763 = .ok (.iconst 1, 1) := qr0 (P := 704) (o := 59) (op := 4) qLW11 (by decide +kernel) qo4
theorem dL_law_764 : decode cL_law 764 = .ok (.iadd, 1) := qr0 (P := 704) (o := 60) (op := 96) qLW11 (by decide +kernel) qo96
theorem dL_law_765 : decode cL_law 765 = .ok (.iaload, 1) := qr0 (P := 704) (o := 61) (op := 46) qLW11 (by decide +kernel) qo46
theorem dL_law_766 : decode cL_law 766 = .ok (.aload_n 0, 1) := qr0 (P := 704) (o := 62) (op := 42) qLW11 (by decide +kernel) qo42
theorem dL_law_767 : decode cL_law 767 = .ok (.iload 5, 2) := qr1 (P := 704) (o := 63) (op := 21) (v := 5) qLW11 (by decide +kernel) qo21
theorem dL_law_769 : decode cL_law 769 = .ok (.iconst 2, 1) := qr0 (P := 768) (o := 1) (op := 5) qLW12 (by decide +kernel) qo5
theorem dL_law_770 : decode cL_law 770 = .ok (.iadd, 1) := qr0 (P := 768) (o := 2) (op := 96) qLW12 (by decide +kernel) qo96
theorem dL_law_771 : decode cL_law 771 = .ok (.iaload, 1) := qr0 (P := 768) (o := 3) (op := 46) qLW12 (by decide +kernel) qo46
theorem dL_law_772 : decode cL_law 772 = .ok (.aload_n 0, 1) := qr0 (P := 768) (o := 4) (op := 42) qLW12 (by decide +kernel) qo42
theorem dL_law_773 : decode cL_law 773 = .ok (.iload 5, 2) := qr1 (P := 768) (o := 5) (op := 21) (v := 5) qLW12 (by decide +kernel) qo21
theorem dL_law_775 : decode cL_law 775 = .ok (.iconst 3, 1) := qr0 (P := 768) (o := 7) (op := 6) qLW12 (by decide +kernel) qo6
theorem dL_law_776 : decode cL_law 776 = .ok (.iadd, 1) := qr0 (P := 768) (o := 8) (op := 96) qLW12 (by decide +kernel) qo96
theorem dL_law_777 : decode cL_law 777 = .ok (.iaload, 1) := qr0 (P := 768) (o := 9) (op := 46) qLW12 (by decide +kernel) qo46
theorem dL_law_778 : decode cL_law 778 = .ok (.invokevirtual 210, 3) := qr2 (P := 768) (o := 10) (op := 182) (v := 210) qLW12 (by decide +kernel) qo182
theorem dL_law_781 : decode cL_law 781 = .ok (.istore 7, 2) := qr1 (P := 768) (o := 13) (op := 54) (v := 7) qLW12 (by decide +kernel) qo54
theorem dL_law_783 : decode cL_law 783 = .ok (.goto 1130, 3) := qr2 (P := 768) (o := 15) (op := 167) (v := 1130) qLW12 (by decide +kernel) (fun h h2 => qo167 h (qs2 h2 (by decide +kernel)))
theorem dL_law_786 : decode cL_law 786 = .ok (.aload_n 1, 1) := qr0 (P := 768) (o := 18) (op := 43) qLW12 (by decide +kernel) qo43
theorem dL_law_787 : decode cL_law 787 = .ok (.aload_n 0, 1) := qr0 (P := 768) (o := 19) (op := 42) qLW12 (by decide +kernel) qo42
theorem dL_law_788 : decode cL_law 788 = .ok (.iload 5, 2) := qr1 (P := 768) (o := 20) (op := 21) (v := 5) qLW12 (by decide +kernel) qo21
theorem dL_law_790 : decode cL_law 790 = .ok (.iconst 1, 1) := qr0 (P := 768) (o := 22) (op := 4) qLW12 (by decide +kernel) qo4
theorem dL_law_791 : decode cL_law 791 = .ok (.iadd, 1) := qr0 (P := 768) (o := 23) (op := 96) qLW12 (by decide +kernel) qo96
theorem dL_law_792 : decode cL_law 792 = .ok (.iaload, 1) := qr0 (P := 768) (o := 24) (op := 46) qLW12 (by decide +kernel) qo46
theorem dL_law_793 : decode cL_law 793 = .ok (.aload_n 0, 1) := qr0 (P := 768) (o := 25) (op := 42) qLW12 (by decide +kernel) qo42
theorem dL_law_794 : decode cL_law 794 = .ok (.iload 5, 2) := qr1 (P := 768) (o := 26) (op := 21) (v := 5) qLW12 (by decide +kernel) qo21
theorem dL_law_796 : decode cL_law 796 = .ok (.iconst 2, 1) := qr0 (P := 768) (o := 28) (op := 5) qLW12 (by decide +kernel) qo5
theorem dL_law_797 : decode cL_law 797 = .ok (.iadd, 1) := qr0 (P := 768) (o := 29) (op := 96) qLW12 (by decide +kernel) qo96
theorem dL_law_798 : decode cL_law 798 = .ok (.iaload, 1) := qr0 (P := 768) (o := 30) (op := 46) qLW12 (by decide +kernel) qo46
theorem dL_law_799 : decode cL_law 799 = .ok (.aload_n 0, 1) := qr0 (P := 768) (o := 31) (op := 42) qLW12 (by decide +kernel) qo42
theorem dL_law_800 : decode cL_law 800 = .ok (.iload 5, 2) := qr1 (P := 768) (o := 32) (op := 21) (v := 5) qLW12 (by decide +kernel) qo21
theorem dL_law_802 : decode cL_law 802 = .ok (.iconst 3, 1) := qr0 (P := 768) (o := 34) (op := 6) qLW12 (by decide +kernel) qo6
theorem dL_law_803 : decode cL_law 803 = .ok (.iadd, 1) := qr0 (P := 768) (o := 35) (op := 96) qLW12 (by decide +kernel) qo96
theorem dL_law_804 : decode cL_law 804 = .ok (.iaload, 1) := qr0 (P := 768) (o := 36) (op := 46) qLW12 (by decide +kernel) qo46
theorem dL_law_805 : decode cL_law 805 = .ok (.aload_n 3, 1) := qr0 (P := 768) (o := 37) (op := 45) qLW12 (by decide +kernel) qo45
theorem dL_law_806 : decode cL_law 806 = .ok (.invokestatic 211, 3) := qr2 (P := 768) (o := 38) (op := 184) (v := 211) qLW12 (by decide +kernel) qo184
theorem dL_law_809 : decode cL_law 809 = .ok (.istore 6, 2) := qr1 (P := 768) (o := 41) (op := 54) (v := 6) qLW12 (by decide +kernel) qo54
theorem dL_law_811 : decode cL_law 811 = .ok (.aload_n 2, 1) := qr0 (P := 768) (o := 43) (op := 44) qLW12 (by decide +kernel) qo44
theorem dL_law_812 : decode cL_law 812 = .ok (.aload_n 0, 1) := qr0 (P := 768) (o := 44) (op := 42) qLW12 (by decide +kernel) qo42
theorem dL_law_813 : decode cL_law 813 = .ok (.iload 5, 2) := qr1 (P := 768) (o := 45) (op := 21) (v := 5) qLW12 (by decide +kernel) qo21
theorem dL_law_815 : decode cL_law 815 = .ok (.iconst 1, 1) := qr0 (P := 768) (o := 47) (op := 4) qLW12 (by decide +kernel) qo4
theorem dL_law_816 : decode cL_law 816 = .ok (.iadd, 1) := qr0 (P := 768) (o := 48) (op := 96) qLW12 (by decide +kernel) qo96
theorem dL_law_817 : decode cL_law 817 = .ok (.iaload, 1) := qr0 (P := 768) (o := 49) (op := 46) qLW12 (by decide +kernel) qo46
theorem dL_law_818 : decode cL_law 818 = .ok (.aload_n 0, 1) := qr0 (P := 768) (o := 50) (op := 42) qLW12 (by decide +kernel) qo42
theorem dL_law_819 : decode cL_law 819 = .ok (.iload 5, 2) := qr1 (P := 768) (o := 51) (op := 21) (v := 5) qLW12 (by decide +kernel) qo21
theorem dL_law_821 : decode cL_law 821 = .ok (.iconst 2, 1) := qr0 (P := 768) (o := 53) (op := 5) qLW12 (by decide +kernel) qo5
theorem dL_law_822 : decode cL_law 822 = .ok (.iadd, 1) := qr0 (P := 768) (o := 54) (op := 96) qLW12 (by decide +kernel) qo96
theorem dL_law_823 : decode cL_law 823 = .ok (.iaload, 1) := qr0 (P := 768) (o := 55) (op := 46) qLW12 (by decide +kernel) qo46
theorem dL_law_824 : decode cL_law 824 = .ok (.aload_n 0, 1) := qr0 (P := 768) (o := 56) (op := 42) qLW12 (by decide +kernel) qo42
theorem dL_law_825 : decode cL_law 825 = .ok (.iload 5, 2) := qr1 (P := 768) (o := 57) (op := 21) (v := 5) qLW12 (by decide +kernel) qo21
theorem dL_law_827 : decode cL_law 827 = .ok (.iconst 3, 1) := qr0 (P := 768) (o := 59) (op := 6) qLW12 (by decide +kernel) qo6
theorem dL_law_828 : decode cL_law 828 = .ok (.iadd, 1) := qr0 (P := 768) (o := 60) (op := 96) qLW12 (by decide +kernel) qo96
theorem dL_law_829 : decode cL_law 829 = .ok (.iaload, 1) := qr0 (P := 768) (o := 61) (op := 46) qLW12 (by decide +kernel) qo46
theorem dL_law_830 : decode cL_law 830 = .ok (.invokevirtual 213, 3) := qr2 (P := 768) (o := 62) (op := 182) (v := 213) qLW12 (by decide +kernel) qo182
theorem dL_law_833 : decode cL_law 833 = .ok (.istore 7, 2) := qr1 (P := 832) (o := 1) (op := 54) (v := 7) qLW13 (by decide +kernel) qo54
theorem dL_law_835 : decode cL_law 835 = .ok (.goto 1078, 3) := qr2 (P := 832) (o := 3) (op := 167) (v := 1078) qLW13 (by decide +kernel) (fun h h2 => qo167 h (qs2 h2 (by decide +kernel)))
theorem dL_law_838 : decode cL_law 838 = .ok (.aload_n 1, 1) := qr0 (P := 832) (o := 6) (op := 43) qLW13 (by decide +kernel) qo43
theorem dL_law_839 : decode cL_law 839 = .ok (.aload_n 0, 1) := qr0 (P := 832) (o := 7) (op := 42) qLW13 (by decide +kernel) qo42
theorem dL_law_840 : decode cL_law 840 = .ok (.iload 5, 2) := qr1 (P := 832) (o := 8) (op := 21) (v := 5) qLW13 (by decide +kernel) qo21
theorem dL_law_842 : decode cL_law 842 = .ok (.iconst 1, 1) := qr0 (P := 832) (o := 10) (op := 4) qLW13 (by decide +kernel) qo4
theorem dL_law_843 : decode cL_law 843 = .ok (.iadd, 1) := qr0 (P := 832) (o := 11) (op := 96) qLW13 (by decide +kernel) qo96
theorem dL_law_844 : decode cL_law 844 = .ok (.iaload, 1) := qr0 (P := 832) (o := 12) (op := 46) qLW13 (by decide +kernel) qo46
theorem dL_law_845 : decode cL_law 845 = .ok (.aload_n 0, 1) := qr0 (P := 832) (o := 13) (op := 42) qLW13 (by decide +kernel) qo42
theorem dL_law_846 : decode cL_law 846 = .ok (.iload 5, 2) := qr1 (P := 832) (o := 14) (op := 21) (v := 5) qLW13 (by decide +kernel) qo21
theorem dL_law_848 : decode cL_law 848 = .ok (.iconst 2, 1) := qr0 (P := 832) (o := 16) (op := 5) qLW13 (by decide +kernel) qo5
theorem dL_law_849 : decode cL_law 849 = .ok (.iadd, 1) := qr0 (P := 832) (o := 17) (op := 96) qLW13 (by decide +kernel) qo96
theorem dL_law_850 : decode cL_law 850 = .ok (.iaload, 1) := qr0 (P := 832) (o := 18) (op := 46) qLW13 (by decide +kernel) qo46
theorem dL_law_851 : decode cL_law 851 = .ok (.aload_n 0, 1) := qr0 (P := 832) (o := 19) (op := 42) qLW13 (by decide +kernel) qo42
theorem dL_law_852 : decode cL_law 852 = .ok (.iload 5, 2) := qr1 (P := 832) (o := 20) (op := 21) (v := 5) qLW13 (by decide +kernel) qo21
theorem dL_law_854 : decode cL_law 854 = .ok (.iconst 3, 1) := qr0 (P := 832) (o := 22) (op := 6) qLW13 (by decide +kernel) qo6
theorem dL_law_855 : decode cL_law 855 = .ok (.iadd, 1) := qr0 (P := 832) (o := 23) (op := 96) qLW13 (by decide +kernel) qo96
theorem dL_law_856 : decode cL_law 856 = .ok (.iaload, 1) := qr0 (P := 832) (o := 24) (op := 46) qLW13 (by decide +kernel) qo46
theorem dL_law_857 : decode cL_law 857 = .ok (.aload_n 3, 1) := qr0 (P := 832) (o := 25) (op := 45) qLW13 (by decide +kernel) qo45
theorem dL_law_858 : decode cL_law 858 = .ok (.invokestatic 214, 3) := qr2 (P := 832) (o := 26) (op := 184) (v := 214) qLW13 (by decide +kernel) qo184
theorem dL_law_861 : decode cL_law 861 = .ok (.istore 6, 2) := qr1 (P := 832) (o := 29) (op := 54) (v := 6) qLW13 (by decide +kernel) qo54
theorem dL_law_863 : decode cL_law 863 = .ok (.aload_n 2, 1) := qr0 (P := 832) (o := 31) (op := 44) qLW13 (by decide +kernel) qo44
theorem dL_law_864 : decode cL_law 864 = .ok (.aload_n 0, 1) := qr0 (P := 832) (o := 32) (op := 42) qLW13 (by decide +kernel) qo42
theorem dL_law_865 : decode cL_law 865 = .ok (.iload 5, 2) := qr1 (P := 832) (o := 33) (op := 21) (v := 5) qLW13 (by decide +kernel) qo21
theorem dL_law_867 : decode cL_law 867 = .ok (.iconst 1, 1) := qr0 (P := 832) (o := 35) (op := 4) qLW13 (by decide +kernel) qo4
theorem dL_law_868 : decode cL_law 868 = .ok (.iadd, 1) := qr0 (P := 832) (o := 36) (op := 96) qLW13 (by decide +kernel) qo96
theorem dL_law_869 : decode cL_law 869 = .ok (.iaload, 1) := qr0 (P := 832) (o := 37) (op := 46) qLW13 (by decide +kernel) qo46
theorem dL_law_870 : decode cL_law 870 = .ok (.aload_n 0, 1) := qr0 (P := 832) (o := 38) (op := 42) qLW13 (by decide +kernel) qo42
theorem dL_law_871 : decode cL_law 871 = .ok (.iload 5, 2) := qr1 (P := 832) (o := 39) (op := 21) (v := 5) qLW13 (by decide +kernel) qo21
theorem dL_law_873 : decode cL_law 873 = .ok (.iconst 2, 1) := qr0 (P := 832) (o := 41) (op := 5) qLW13 (by decide +kernel) qo5
theorem dL_law_874 : decode cL_law 874 = .ok (.iadd, 1) := qr0 (P := 832) (o := 42) (op := 96) qLW13 (by decide +kernel) qo96
theorem dL_law_875 : decode cL_law 875 = .ok (.iaload, 1) := qr0 (P := 832) (o := 43) (op := 46) qLW13 (by decide +kernel) qo46
theorem dL_law_876 : decode cL_law 876 = .ok (.aload_n 0, 1) := qr0 (P := 832) (o := 44) (op := 42) qLW13 (by decide +kernel) qo42
theorem dL_law_877 : decode cL_law 877 = .ok (.iload 5, 2) := qr1 (P := 832) (o := 45) (op := 21) (v := 5) qLW13 (by decide +kernel) qo21
theorem dL_law_879 : decode cL_law 879 = .ok (.iconst 3, 1) := qr0 (P := 832) (o := 47) (op := 6) qLW13 (by decide +kernel) qo6
theorem dL_law_880 : decode cL_law 880 = .ok (.iadd, 1) := qr0 (P := 832) (o := 48) (op := 96) qLW13 (by decide +kernel) qo96
theorem dL_law_881 : decode cL_law 881 = .ok (.iaload, 1) := qr0 (P := 832) (o := 49) (op := 46) qLW13 (by decide +kernel) qo46
theorem dL_law_882 : decode cL_law 882 = .ok (.invokevirtual 216, 3) := qr2 (P := 832) (o := 50) (op := 182) (v := 216) qLW13 (by decide +kernel) qo182
theorem dL_law_885 : decode cL_law 885 = .ok (.istore 7, 2) := qr1 (P := 832) (o := 53) (op := 54) (v := 7) qLW13 (by decide +kernel) qo54
theorem dL_law_887 : decode cL_law 887 = .ok (.goto 1026, 3) := qr2 (P := 832) (o := 55) (op := 167) (v := 1026) qLW13 (by decide +kernel) (fun h h2 => qo167 h (qs2 h2 (by decide +kernel)))
theorem dL_law_890 : decode cL_law 890 = .ok (.aload_n 1, 1) := qr0 (P := 832) (o := 58) (op := 43) qLW13 (by decide +kernel) qo43
theorem dL_law_891 : decode cL_law 891 = .ok (.aload_n 0, 1) := qr0 (P := 832) (o := 59) (op := 42) qLW13 (by decide +kernel) qo42
theorem dL_law_892 : decode cL_law 892 = .ok (.iload 5, 2) := qr1 (P := 832) (o := 60) (op := 21) (v := 5) qLW13 (by decide +kernel) qo21
theorem dL_law_894 : decode cL_law 894 = .ok (.iconst 1, 1) := qr0 (P := 832) (o := 62) (op := 4) qLW13 (by decide +kernel) qo4
theorem dL_law_895 : decode cL_law 895 = .ok (.iadd, 1) := qr0 (P := 832) (o := 63) (op := 96) qLW13 (by decide +kernel) qo96
theorem dL_law_896 : decode cL_law 896 = .ok (.iaload, 1) := qr0 (P := 896) (o := 0) (op := 46) qLW14 (by decide +kernel) qo46
theorem dL_law_897 : decode cL_law 897 = .ok (.aload_n 0, 1) := qr0 (P := 896) (o := 1) (op := 42) qLW14 (by decide +kernel) qo42
theorem dL_law_898 : decode cL_law 898 = .ok (.iload 5, 2) := qr1 (P := 896) (o := 2) (op := 21) (v := 5) qLW14 (by decide +kernel) qo21
theorem dL_law_900 : decode cL_law 900 = .ok (.iconst 2, 1) := qr0 (P := 896) (o := 4) (op := 5) qLW14 (by decide +kernel) qo5
theorem dL_law_901 : decode cL_law 901 = .ok (.iadd, 1) := qr0 (P := 896) (o := 5) (op := 96) qLW14 (by decide +kernel) qo96
theorem dL_law_902 : decode cL_law 902 = .ok (.iaload, 1) := qr0 (P := 896) (o := 6) (op := 46) qLW14 (by decide +kernel) qo46
theorem dL_law_903 : decode cL_law 903 = .ok (.aload_n 0, 1) := qr0 (P := 896) (o := 7) (op := 42) qLW14 (by decide +kernel) qo42
theorem dL_law_904 : decode cL_law 904 = .ok (.iload 5, 2) := qr1 (P := 896) (o := 8) (op := 21) (v := 5) qLW14 (by decide +kernel) qo21
theorem dL_law_906 : decode cL_law 906 = .ok (.iconst 3, 1) := qr0 (P := 896) (o := 10) (op := 6) qLW14 (by decide +kernel) qo6
theorem dL_law_907 : decode cL_law 907 = .ok (.iadd, 1) := qr0 (P := 896) (o := 11) (op := 96) qLW14 (by decide +kernel) qo96
theorem dL_law_908 : decode cL_law 908 = .ok (.iaload, 1) := qr0 (P := 896) (o := 12) (op := 46) qLW14 (by decide +kernel) qo46
theorem dL_law_909 : decode cL_law 909 = .ok (.aload_n 3, 1) := qr0 (P := 896) (o := 13) (op := 45) qLW14 (by decide +kernel) qo45
theorem dL_law_910 : decode cL_law 910 = .ok (.invokestatic 217, 3) := qr2 (P := 896) (o := 14) (op := 184) (v := 217) qLW14 (by decide +kernel) qo184
theorem dL_law_913 : decode cL_law 913 = .ok (.istore 6, 2) := qr1 (P := 896) (o := 17) (op := 54) (v := 6) qLW14 (by decide +kernel) qo54
theorem dL_law_915 : decode cL_law 915 = .ok (.aload_n 2, 1) := qr0 (P := 896) (o := 19) (op := 44) qLW14 (by decide +kernel) qo44
theorem dL_law_916 : decode cL_law 916 = .ok (.aload_n 0, 1) := qr0 (P := 896) (o := 20) (op := 42) qLW14 (by decide +kernel) qo42
theorem dL_law_917 : decode cL_law 917 = .ok (.iload 5, 2) := qr1 (P := 896) (o := 21) (op := 21) (v := 5) qLW14 (by decide +kernel) qo21
theorem dL_law_919 : decode cL_law 919 = .ok (.iconst 1, 1) := qr0 (P := 896) (o := 23) (op := 4) qLW14 (by decide +kernel) qo4
theorem dL_law_920 : decode cL_law 920 = .ok (.iadd, 1) := qr0 (P := 896) (o := 24) (op := 96) qLW14 (by decide +kernel) qo96

theorem dL_law_921 : decode cL_law 921 = .ok (.iaload, 1) := qr0 (P := 896) (o := 25) (op := 46) qLW14 (by decide +kernel) qo46
theorem dL_law_922 : decode cL_law 922 = .ok (.aload_n 0, 1) := qr0 (P := 896) (o := 26) (op := 42) qLW14 (by decide +kernel) qo42
theorem dL_law_923 : decode cL_law 923 = .ok (.iload 5, 2) := qr1 (P := 896) (o := 27) (op := 21) (v := 5) qLW14 (by decide +kernel) qo21
theorem dL_law_925 : decode cL_law 925 = .ok (.iconst 2, 1) := qr0 (P := 896) (o := 29) (op := 5) qLW14 (by decide +kernel) qo5
theorem dL_law_926 : decode cL_law 926 = .ok (.iadd, 1) := qr0 (P := 896) (o := 30) (op := 96) qLW14 (by decide +kernel) qo96
theorem dL_law_927 : decode cL_law 927 = .ok (.iaload, 1) := qr0 (P := 896) (o := 31) (op := 46) qLW14 (by decide +kernel) qo46
theorem dL_law_928 : decode cL_law 928 = .ok (.aload_n 0, 1) := qr0 (P := 896) (o := 32) (op := 42) qLW14 (by decide +kernel) qo42
theorem dL_law_929 : decode cL_law 929 = .ok (.iload 5, 2) := qr1 (P := 896) (o := 33) (op := 21) (v := 5) qLW14 (by decide +kernel) qo21
theorem dL_law_931 : decode cL_law 931 = .ok (.iconst 3, 1) := qr0 (P := 896) (o := 35) (op := 6) qLW14 (by decide +kernel) qo6
theorem dL_law_932 : decode cL_law 932 = .ok (.iadd, 1) := qr0 (P := 896) (o := 36) (op := 96) qLW14 (by decide +kernel) qo96
theorem dL_law_933 : decode cL_law 933 = .ok (.iaload, 1) := qr0 (P := 896) (o := 37) (op := 46) qLW14 (by decide +kernel) qo46
theorem dL_law_934 : decode cL_law 934 = .ok (.invokevirtual 219, 3) := qr2 (P := 896) (o := 38) (op := 182) (v := 219) qLW14 (by decide +kernel) qo182
theorem dL_law_937 : decode cL_law 937 = .ok (.istore 7, 2) := qr1 (P := 896) (o := 41) (op := 54) (v := 7) qLW14 (by decide +kernel) qo54
theorem dL_law_939 : decode cL_law 939 = .ok (.goto 974, 3) := qr2 (P := 896) (o := 43) (op := 167) (v := 974) qLW14 (by decide +kernel) (fun h h2 => qo167 h (qs2 h2 (by decide +kernel)))
theorem dL_law_942 : decode cL_law 942 = .ok (.aload_n 1, 1) := qr0 (P := 896) (o := 46) (op := 43) qLW14 (by decide +kernel) qo43
theorem dL_law_943 : decode cL_law 943 = .ok (.aload_n 0, 1) := qr0 (P := 896) (o := 47) (op := 42) qLW14 (by decide +kernel) qo42
theorem dL_law_944 : decode cL_law 944 = .ok (.iload 5, 2) := qr1 (P := 896) (o := 48) (op := 21) (v := 5) qLW14 (by decide +kernel) qo21
theorem dL_law_946 : decode cL_law 946 = .ok (.iconst 1, 1) := qr0 (P := 896) (o := 50) (op := 4) qLW14 (by decide +kernel) qo4
theorem dL_law_947 : decode cL_law 947 = .ok (.iadd, 1) := qr0 (P := 896) (o := 51) (op := 96) qLW14 (by decide +kernel) qo96
theorem dL_law_948 : decode cL_law 948 = .ok (.iaload, 1) := qr0 (P := 896) (o := 52) (op := 46) qLW14 (by decide +kernel) qo46
theorem dL_law_949 : decode cL_law 949 = .ok (.aload_n 0, 1) := qr0 (P := 896) (o := 53) (op := 42) qLW14 (by decide +kernel) qo42
theorem dL_law_950 : decode cL_law 950 = .ok (.iload 5, 2) := qr1 (P := 896) (o := 54) (op := 21) (v := 5) qLW14 (by decide +kernel) qo21
theorem dL_law_952 : decode cL_law 952 = .ok (.iconst 2, 1) := qr0 (P := 896) (o := 56) (op := 5) qLW14 (by decide +kernel) qo5
theorem dL_law_953 : decode cL_law 953 = .ok (.iadd, 1) := qr0 (P := 896) (o := 57) (op := 96) qLW14 (by decide +kernel) qo96
theorem dL_law_954 : decode cL_law 954 = .ok (.iaload, 1) := qr0 (P := 896) (o := 58) (op := 46) qLW14 (by decide +kernel) qo46
theorem dL_law_955 : decode cL_law 955 = .ok (.aload_n 0, 1) := qr0 (P := 896) (o := 59) (op := 42) qLW14 (by decide +kernel) qo42
theorem dL_law_956 : decode cL_law 956 = .ok (.iload 5, 2) := qr1 (P := 896) (o := 60) (op := 21) (v := 5) qLW14 (by decide +kernel) qo21
theorem dL_law_958 : decode cL_law 958 = .ok (.iconst 3, 1) := qr0 (P := 896) (o := 62) (op := 6) qLW14 (by decide +kernel) qo6
theorem dL_law_959 : decode cL_law 959 = .ok (.iadd, 1) := qr0 (P := 896) (o := 63) (op := 96) qLW14 (by decide +kernel) qo96
theorem dL_law_960 : decode cL_law 960 = .ok (.iaload, 1) := qr0 (P := 960) (o := 0) (op := 46) qLW15 (by decide +kernel) qo46
theorem dL_law_961 : decode cL_law 961 = .ok (.aload_n 3, 1) := qr0 (P := 960) (o := 1) (op := 45) qLW15 (by decide +kernel) qo45
theorem dL_law_962 : decode cL_law 962 = .ok (.invokestatic 220, 3) := qr2 (P := 960) (o := 2) (op := 184) (v := 220) qLW15 (by decide +kernel) qo184
theorem dL_law_965 : decode cL_law 965 = .ok (.istore 6, 2) := qr1 (P := 960) (o := 5) (op := 54) (v := 6) qLW15 (by decide +kernel) qo54
theorem dL_law_967 : decode cL_law 967 = .ok (.aload_n 2, 1) := qr0 (P := 960) (o := 7) (op := 44) qLW15 (by decide +kernel) qo44
theorem dL_law_968 : decode cL_law 968 = .ok (.aload_n 0, 1) := qr0 (P := 960) (o := 8) (op := 42) qLW15 (by decide +kernel) qo42
theorem dL_law_969 : decode cL_law 969 = .ok (.iload 5, 2) := qr1 (P := 960) (o := 9) (op := 21) (v := 5) qLW15 (by decide +kernel) qo21
theorem dL_law_971 : decode cL_law 971 = .ok (.iconst 1, 1) := qr0 (P := 960) (o := 11) (op := 4) qLW15 (by decide +kernel) qo4
theorem dL_law_972 : decode cL_law 972 = .ok (.iadd, 1) := qr0 (P := 960) (o := 12) (op := 96) qLW15 (by decide +kernel) qo96
theorem dL_law_973 : decode cL_law 973 = .ok (.iaload, 1) := qr0 (P := 960) (o := 13) (op := 46) qLW15 (by decide +kernel) qo46
theorem dL_law_974 : decode cL_law 974 = .ok (.aload_n 0, 1) := qr0 (P := 960) (o := 14) (op := 42) qLW15 (by decide +kernel) qo42
theorem dL_law_975 : decode cL_law 975 = .ok (.iload 5, 2) := qr1 (P := 960) (o := 15) (op := 21) (v := 5) qLW15 (by decide +kernel) qo21
theorem dL_law_977 : decode cL_law 977 = .ok (.iconst 2, 1) := qr0 (P := 960) (o := 17) (op := 5) qLW15 (by decide +kernel) qo5
theorem dL_law_978 : decode cL_law 978 = .ok (.iadd, 1) := qr0 (P := 960) (o := 18) (op := 96) qLW15 (by decide +kernel) qo96
theorem dL_law_979 : decode cL_law 979 = .ok (.iaload, 1) := qr0 (P := 960) (o := 19) (op := 46) qLW15 (by decide +kernel) qo46
theorem dL_law_980 : decode cL_law 980 = .ok (.aload_n 0, 1) := qr0 (P := 960) (o := 20) (op := 42) qLW15 (by decide +kernel) qo42
theorem dL_law_981 : decode cL_law 981 = .ok (.iload 5, 2) := qr1 (P := 960) (o := 21) (op := 21) (v := 5) qLW15 (by decide +kernel) qo21
theorem dL_law_983 : decode cL_law 983 = .ok (.iconst 3, 1) := qr0 (P := 960) (o := 23) (op := 6) qLW15 (by decide +kernel) qo6
theorem dL_law_984 : decode cL_law 984 = .ok (.iadd, 1) := qr0 (P := 960) (o := 24) (op := 96) qLW15 (by decide +kernel) qo96
theorem dL_law_985 : decode cL_law 985 = .ok (.iaload, 1) := qr0 (P := 960) (o := 25) (op := 46) qLW15 (by decide +kernel) qo46
theorem dL_law_986 : decode cL_law 986 = .ok (.invokevirtual 222, 3) := qr2 (P := 960) (o := 26) (op := 182) (v := 222) qLW15 (by decide +kernel) qo182
theorem dL_law_989 : decode cL_law 989 = .ok (.istore 7, 2) := qr1 (P := 960) (o := 29) (op := 54) (v := 7) qLW15 (by decide +kernel) qo54
theorem dL_law_991 : decode cL_law 991 = .ok (.goto 922, 3) := qr2 (P := 960) (o := 31) (op := 167) (v := 922) qLW15 (by decide +kernel) (fun h h2 => qo167 h (qs2 h2 (by decide +kernel)))
theorem dL_law_994 : decode cL_law 994 = .ok (.aload_n 1, 1) := qr0 (P := 960) (o := 34) (op := 43) qLW15 (by decide +kernel) qo43
theorem dL_law_995 : decode cL_law 995 = .ok (.aload_n 0, 1) := qr0 (P := 960) (o := 35) (op := 42) qLW15 (by decide +kernel) qo42
theorem dL_law_996 : decode cL_law 996 = .ok (.iload 5, 2) := qr1 (P := 960) (o := 36) (op := 21) (v := 5) qLW15 (by decide +kernel) qo21
theorem dL_law_998 : decode cL_law 998 = .ok (.iconst 1, 1) := qr0 (P := 960) (o := 38) (op := 4) qLW15 (by decide +kernel) qo4
theorem dL_law_999 : decode cL_law 999 = .ok (.iadd, 1) := qr0 (P := 960) (o := 39) (op := 96) qLW15 (by decide +kernel) qo96
theorem dL_law_1000 : decode cL_law 1000 = .ok (.iaload, 1) := qr0 (P := 960) (o := 40) (op := 46) qLW15 (by decide +kernel) qo46
theorem dL_law_1001 : decode cL_law 1001 = .ok (.aload_n 0, 1) := qr0 (P := 960) (o := 41) (op := 42) qLW15 (by decide +kernel) qo42
theorem dL_law_1002 : decode cL_law 1002 = .ok (.iload 5, 2) := qr1 (P := 960) (o := 42) (op := 21) (v := 5) qLW15 (by decide +kernel) qo21
theorem dL_law_1004 : decode cL_law 1004 = .ok (.iconst 2, 1) := qr0 (P := 960) (o := 44) (op := 5) qLW15 (by decide +kernel) qo5
theorem dL_law_1005 : decode cL_law 1005 = .ok (.iadd, 1) := qr0 (P := 960) (o := 45) (op := 96) qLW15 (by decide +kernel) qo96
theorem dL_law_1006 : decode cL_law 1006 = .ok (.iaload, 1) := qr0 (P := 960) (o := 46) (op := 46) qLW15 (by decide +kernel) qo46
theorem dL_law_1007 : decode cL_law 1007 = .ok (.aload_n 0, 1) := qr0 (P := 960) (o := 47) (op := 42) qLW15 (by decide +kernel) qo42
theorem dL_law_1008 : decode cL_law 1008 = .ok (.iload 5, 2) := qr1 (P := 960) (o := 48) (op := 21) (v := 5) qLW15 (by decide +kernel) qo21
theorem dL_law_1010 : decode cL_law 1010 = .ok (.iconst 3, 1) := qr0 (P := 960) (o := 50) (op := 6) qLW15 (by decide +kernel) qo6
theorem dL_law_1011 : decode cL_law 1011 = .ok (.iadd, 1) := qr0 (P := 960) (o := 51) (op := 96) qLW15 (by decide +kernel) qo96
theorem dL_law_1012 : decode cL_law 1012 = .ok (.iaload, 1) := qr0 (P := 960) (o := 52) (op := 46) qLW15 (by decide +kernel) qo46
theorem dL_law_1013 : decode cL_law 1013 = .ok (.aload_n 3, 1) := qr0 (P := 960) (o := 53) (op := 45) qLW15 (by decide +kernel) qo45
theorem dL_law_1014 : decode cL_law 1014 = .ok (.invokestatic 223, 3) := qr2 (P := 960) (o := 54) (op := 184) (v := 223) qLW15 (by decide +kernel) qo184
theorem dL_law_1017 : decode cL_law 1017 = .ok (.istore 6, 2) := qr1 (P := 960) (o := 57) (op := 54) (v := 6) qLW15 (by decide +kernel) qo54
theorem dL_law_1019 : decode cL_law 1019 = .ok (.aload_n 2, 1) := qr0 (P := 960) (o := 59) (op := 44) qLW15 (by decide +kernel) qo44
theorem dL_law_1020 : decode cL_law 1020 = .ok (.aload_n 0, 1) := qr0 (P := 960) (o := 60) (op := 42) qLW15 (by decide +kernel) qo42
theorem dL_law_1021 : decode cL_law 1021 = .ok (.iload 5, 2) := qr1 (P := 960) (o := 61) (op := 21) (v := 5) qLW15 (by decide +kernel) qo21
theorem dL_law_1023 : decode cL_law 1023 = .ok (.iconst 1, 1) := qr0 (P := 960) (o := 63) (op := 4) qLW15 (by decide +kernel) qo4
theorem dL_law_1024 : decode cL_law 1024 = .ok (.iadd, 1) := qr0 (P := 1024) (o := 0) (op := 96) qLW16 (by decide +kernel) qo96
theorem dL_law_1025 : decode cL_law 1025 = .ok (.iaload, 1) := qr0 (P := 1024) (o := 1) (op := 46) qLW16 (by decide +kernel) qo46
theorem dL_law_1026 : decode cL_law 1026 = .ok (.aload_n 0, 1) := qr0 (P := 1024) (o := 2) (op := 42) qLW16 (by decide +kernel) qo42
theorem dL_law_1027 : decode cL_law 1027 = .ok (.iload 5, 2) := qr1 (P := 1024) (o := 3) (op := 21) (v := 5) qLW16 (by decide +kernel) qo21
theorem dL_law_1029 : decode cL_law 1029 = .ok (.iconst 2, 1) := qr0 (P := 1024) (o := 5) (op := 5) qLW16 (by decide +kernel) qo5
theorem dL_law_1030 : decode cL_law 1030 = .ok (.iadd, 1) := qr0 (P := 1024) (o := 6) (op := 96) qLW16 (by decide +kernel) qo96
theorem dL_law_1031 : decode cL_law 1031 = .ok (.iaload, 1) := qr0 (P := 1024) (o := 7) (op := 46) qLW16 (by decide +kernel) qo46
theorem dL_law_1032 : decode cL_law 1032 = .ok (.aload_n 0, 1) := qr0 (P := 1024) (o := 8) (op := 42) qLW16 (by decide +kernel) qo42
theorem dL_law_1033 : decode cL_law 1033 = .ok (.iload 5, 2) := qr1 (P := 1024) (o := 9) (op := 21) (v := 5) qLW16 (by decide +kernel) qo21
theorem dL_law_1035 : decode cL_law 1035 = .ok (.iconst 3, 1) := qr0 (P := 1024) (o := 11) (op := 6) qLW16 (by decide +kernel) qo6
theorem dL_law_1036 : decode cL_law 1036 = .ok (.iadd, 1) := qr0 (P := 1024) (o := 12) (op := 96) qLW16 (by decide +kernel) qo96
theorem dL_law_1037 : decode cL_law 1037 = .ok (.iaload, 1) := qr0 (P := 1024) (o := 13) (op := 46) qLW16 (by decide +kernel) qo46
theorem dL_law_1038 : decode cL_law 1038 = .ok (.invokevirtual 225, 3) := qr2 (P := 1024) (o := 14) (op := 182) (v := 225) qLW16 (by decide +kernel) qo182
theorem dL_law_1041 : decode cL_law 1041 = .ok (.istore 7, 2) := qr1 (P := 1024) (o := 17) (op := 54) (v := 7) qLW16 (by decide +kernel) qo54
theorem dL_law_1043 : decode cL_law 1043 = .ok (.goto 870, 3) := qr2 (P := 1024) (o := 19) (op := 167) (v := 870) qLW16 (by decide +kernel) (fun h h2 => qo167 h (qs2 h2 (by decide +kernel)))
theorem dL_law_1046 : decode cL_law 1046 = .ok (.aload_n 1, 1) := qr0 (P := 1024) (o := 22) (op := 43) qLW16 (by decide +kernel) qo43
theorem dL_law_1047 : decode cL_law 1047 = .ok (.aload_n 0, 1) := qr0 (P := 1024) (o := 23) (op := 42) qLW16 (by decide +kernel) qo42
theorem dL_law_1048 : decode cL_law 1048 = .ok (.iload 5, 2) := qr1 (P := 1024) (o := 24) (op := 21) (v := 5) qLW16 (by decide +kernel) qo21
theorem dL_law_1050 : decode cL_law 1050 = .ok (.iconst 1, 1) := qr0 (P := 1024) (o := 26) (op := 4) qLW16 (by decide +kernel) qo4
theorem dL_law_1051 : decode cL_law 1051 = .ok (.iadd, 1) := qr0 (P := 1024) (o := 27) (op := 96) qLW16 (by decide +kernel) qo96
theorem dL_law_1052 : decode cL_law 1052 = .ok (.iaload, 1) := qr0 (P := 1024) (o := 28) (op := 46) qLW16 (by decide +kernel) qo46
theorem dL_law_1053 : decode cL_law 1053 = .ok (.aload_n 0, 1) := qr0 (P := 1024) (o := 29) (op := 42) qLW16 (by decide +kernel) qo42
theorem dL_law_1054 : decode cL_law 1054 = .ok (.iload 5, 2) := qr1 (P := 1024) (o := 30) (op := 21) (v := 5) qLW16 (by decide +kernel) qo21
theorem dL_law_1056 : decode cL_law 1056 = .ok (.iconst 2, 1) := qr0 (P := 1024) (o := 32) (op := 5) qLW16 (by decide +kernel) qo5
theorem dL_law_1057 : decode cL_law 1057 = .ok (.iadd, 1) := qr0 (P := 1024) (o := 33) (op := 96) qLW16 (by decide +kernel) qo96
theorem dL_law_1058 : decode cL_law 1058 = .ok (.iaload, 1) := qr0 (P := 1024) (o := 34) (op := 46) qLW16 (by decide +kernel) qo46
theorem dL_law_1059 : decode cL_law 1059 = .ok (.aload_n 0, 1) := qr0 (P := 1024) (o := 35) (op := 42) qLW16 (by decide +kernel) qo42
theorem dL_law_1060 : decode cL_law 1060 = .ok (.iload 5, 2) := qr1 (P := 1024) (o := 36) (op := 21) (v := 5) qLW16 (by decide +kernel) qo21
theorem dL_law_1062 : decode cL_law 1062 = .ok (.iconst 3, 1) := qr0 (P := 1024) (o := 38) (op := 6) qLW16 (by decide +kernel) qo6
theorem dL_law_1063 : decode cL_law 1063 = .ok (.iadd, 1) := qr0 (P := 1024) (o := 39) (op := 96) qLW16 (by decide +kernel) qo96
theorem dL_law_1064 : decode cL_law 1064 = .ok (.iaload, 1) := qr0 (P := 1024) (o := 40) (op := 46) qLW16 (by decide +kernel) qo46
theorem dL_law_1065 : decode cL_law 1065 = .ok (.aload_n 3, 1) := qr0 (P := 1024) (o := 41) (op := 45) qLW16 (by decide +kernel) qo45
theorem dL_law_1066 : decode cL_law 1066 = .ok (.invokestatic 226, 3) := qr2 (P := 1024) (o := 42) (op := 184) (v := 226) qLW16 (by decide +kernel) qo184
theorem dL_law_1069 : decode cL_law 1069 = .ok (.istore 6, 2) := qr1 (P := 1024) (o := 45) (op := 54) (v := 6) qLW16 (by decide +kernel) qo54
theorem dL_law_1071 : decode cL_law 1071 = .ok (.aload_n 2, 1) := qr0 (P := 1024) (o := 47) (op := 44) qLW16 (by decide +kernel) qo44
theorem dL_law_1072 : decode cL_law 1072 = .ok (.aload_n 0, 1) := qr0 (P := 1024) (o := 48) (op := 42) qLW16 (by decide +kernel) qo42
theorem dL_law_1073 : decode cL_law 1073 = .ok (.iload 5, 2) := qr1 (P := 1024) (o := 49) (op := 21) (v := 5) qLW16 (by decide +kernel) qo21
theorem dL_law_1075 : decode cL_law 1075 = .ok (.iconst 1, 1) := qr0 (P := 1024) (o := 51) (op := 4) qLW16 (by decide +kernel) qo4
theorem dL_law_1076 : decode cL_law 1076 = .ok (.iadd, 1) := qr0 (P := 1024) (o := 52) (op := 96) qLW16 (by decide +kernel) qo96
theorem dL_law_1077 : decode cL_law 1077 = .ok (.iaload, 1) := qr0 (P := 1024) (o := 53) (op := 46) qLW16 (by decide +kernel) qo46
theorem dL_law_1078 : decode cL_law 1078 = .ok (.aload_n 0, 1) := qr0 (P := 1024) (o := 54) (op := 42) qLW16 (by decide +kernel) qo42
theorem dL_law_1079 : decode cL_law 1079 = .ok (.iload 5, 2) := qr1 (P := 1024) (o := 55) (op := 21) (v := 5) qLW16 (by decide +kernel) qo21
theorem dL_law_1081 : decode cL_law 1081 = .ok (.iconst 2, 1) := qr0 (P := 1024) (o := 57) (op := 5) qLW16 (by decide +kernel) qo5
theorem dL_law_1082 : decode cL_law 1082 = .ok (.iadd, 1) := qr0 (P := 1024) (o := 58) (op := 96) qLW16 (by decide +kernel) qo96
theorem dL_law_1083 : decode cL_law 1083 = .ok (.iaload, 1) := qr0 (P := 1024) (o := 59) (op := 46) qLW16 (by decide +kernel) qo46
theorem dL_law_1084 : decode cL_law 1084 = .ok (.aload_n 0, 1) := qr0 (P := 1024) (o := 60) (op := 42) qLW16 (by decide +kernel) qo42
theorem dL_law_1085 : decode cL_law 1085 = .ok (.iload 5, 2) := qr1 (P := 1024) (o := 61) (op := 21) (v := 5) qLW16 (by decide +kernel) qo21
theorem dL_law_1087 : decode cL_law 1087 = .ok (.iconst 3, 1) := qr0 (P := 1024) (o := 63) (op := 6) qLW16 (by decide +kernel) qo6
theorem dL_law_1088 : decode cL_law 1088 = .ok (.iadd, 1) := qr0 (P := 1088) (o := 0) (op := 96) qLW17 (by decide +kernel) qo96
theorem dL_law_1089 : decode cL_law 1089 = .ok (.iaload, 1) := qr0 (P := 1088) (o := 1) (op := 46) qLW17 (by decide +kernel) qo46
theorem dL_law_1090 : decode cL_law 1090 = .ok (.invokevirtual 228, 3) := qr2 (P := 1088) (o := 2) (op := 182) (v := 228) qLW17 (by decide +kernel) qo182
theorem dL_law_1093 : decode cL_law 1093 = .ok (.istore 7, 2) := qr1 (P := 1088) (o := 5) (op := 54) (v := 7) qLW17 (by decide +kernel) qo54
theorem dL_law_1095 : decode cL_law 1095 = .ok (.goto 818, 3) := qr2 (P := 1088) (o := 7) (op := 167) (v := 818) qLW17 (by decide +kernel) (fun h h2 => qo167 h (qs2 h2 (by decide +kernel)))
theorem dL_law_1098 : decode cL_law 1098 = .ok (.aload_n 1, 1) := qr0 (P := 1088) (o := 10) (op := 43) qLW17 (by decide +kernel) qo43
theorem dL_law_1099 : decode cL_law 1099 = .ok (.aload_n 0, 1) := qr0 (P := 1088) (o := 11) (op := 42) qLW17 (by decide +kernel) qo42
theorem dL_law_1100 : decode cL_law 1100 = .ok (.iload 5, 2) := qr1 (P := 1088) (o := 12) (op := 21) (v := 5) qLW17 (by decide +kernel) qo21
theorem dL_law_1102 : decode cL_law 1102 = .ok (.iconst 1, 1) := qr0 (P := 1088) (o := 14) (op := 4) qLW17 (by decide +kernel) qo4
theorem dL_law_1103 : decode cL_law 1103 = .ok (.iadd, 1) := qr0 (P := 1088) (o := 15) (op := 96) qLW17 (by decide +kernel) qo96
theorem dL_law_1104 : decode cL_law 1104 = .ok (.iaload, 1) := qr0 (P := 1088) (o := 16) (op := 46) qLW17 (by decide +kernel) qo46
theorem dL_law_1105 : decode cL_law 1105 = .ok (.aload_n 3, 1) := qr0 (P := 1088) (o := 17) (op := 45) qLW17 (by decide +kernel) qo45
theorem dL_law_1106 : decode cL_law 1106 = .ok (.invokestatic 229, 3) := qr2 (P := 1088) (o := 18) (op := 184) (v := 229) qLW17 (by decide +kernel) qo184
theorem dL_law_1109 : decode cL_law 1109 = .ok (.istore 6, 2) := qr1 (P := 1088) (o := 21) (op := 54) (v := 6) qLW17 (by decide +kernel) qo54
theorem dL_law_1111 : decode cL_law 1111 = .ok (.aload_n 2, 1) := qr0 (P := 1088) (o := 23) (op := 44) qLW17 (by decide +kernel) qo44
theorem dL_law_1112 : decode cL_law 1112 = .ok (.aload_n 0, 1) := qr0 (P := 1088) (o := 24) (op := 42) qLW17 (by decide +kernel) qo42
theorem dL_law_1113 : decode cL_law 1113 = .ok (.iload 5, 2) := qr1 (P := 1088) (o := 25) (op := 21) (v := 5) qLW17 (by decide +kernel) qo21
theorem dL_law_1115 : decode cL_law 1115 = .ok (.iconst 1, 1) := qr0 (P := 1088) (o := 27) (op := 4) qLW17 (by decide +kernel) qo4
theorem dL_law_1116 : decode cL_law 1116 = .ok (.iadd, 1) := qr0 (P := 1088) (o := 28) (op := 96) qLW17 (by decide +kernel) qo96
theorem dL_law_1117 : decode cL_law 1117 = .ok (.iaload, 1) := qr0 (P := 1088) (o := 29) (op := 46) qLW17 (by decide +kernel) qo46
theorem dL_law_1118 : decode cL_law 1118 = .ok (.invokevirtual 231, 3) := qr2 (P := 1088) (o := 30) (op := 182) (v := 231) qLW17 (by decide +kernel) qo182
theorem dL_law_1121 : decode cL_law 1121 = .ok (.istore 7, 2) := qr1 (P := 1088) (o := 33) (op := 54) (v := 7) qLW17 (by decide +kernel) qo54
theorem dL_law_1123 : decode cL_law 1123 = .ok (.goto 790, 3) := qr2 (P := 1088) (o := 35) (op := 167) (v := 790) qLW17 (by decide +kernel) (fun h h2 => qo167 h (qs2 h2 (by decide +kernel)))
theorem dL_law_1126 : decode cL_law 1126 = .ok (.aload_n 1, 1) := qr0 (P := 1088) (o := 38) (op := 43) qLW17 (by decide +kernel) qo43
theorem dL_law_1127 : decode cL_law 1127 = .ok (.aload_n 0, 1) := qr0 (P := 1088) (o := 39) (op := 42) qLW17 (by decide +kernel) qo42
theorem dL_law_1128 : decode cL_law 1128 = .ok (.iload 5, 2) := qr1 (P := 1088) (o := 40) (op := 21) (v := 5) qLW17 (by decide +kernel) qo21
theorem dL_law_1130 : decode cL_law 1130 = .ok (.iconst 1, 1) := qr0 (P := 1088) (o := 42) (op := 4) qLW17 (by decide +kernel) qo4
theorem dL_law_1131 : decode cL_law 1131 = .ok (.iadd, 1) := qr0 (P := 1088) (o := 43) (op := 96) qLW17 (by decide +kernel) qo96
theorem dL_law_1132 : decode cL_law 1132 = .ok (.iaload, 1) := qr0 (P := 1088) (o := 44) (op := 46) qLW17 (by decide +kernel) qo46
theorem dL_law_1133 : decode cL_law 1133 = .ok (.aload_n 3, 1) := qr0 (P := 1088) (o := 45) (op := 45) qLW17 (by decide +kernel) qo45
theorem dL_law_1134 : decode cL_law 1134 = .ok (.invokestatic 232, 3) := qr2 (P := 1088) (o := 46) (op := 184) (v := 232) qLW17 (by decide +kernel) qo184
theorem dL_law_1137 : decode cL_law 1137 = .ok (.istore 6, 2) := qr1 (P := 1088) (o := 49) (op := 54) (v := 6) qLW17 (by decide +kernel) qo54
theorem dL_law_1139 : decode cL_law 1139 = .ok (.aload_n 2, 1) := qr0 (P := 1088) (o := 51) (op := 44) qLW17 (by decide +kernel) qo44
theorem dL_law_1140 : decode cL_law 1140 = .ok (.aload_n 0, 1) := qr0 (P := 1088) (o := 52) (op := 42) qLW17 (by decide +kernel) qo42
theorem dL_law_1141 : decode cL_law 1141 = .ok (.iload 5, 2) := qr1 (P := 1088) (o := 53) (op := 21) (v := 5) qLW17 (by decide +kernel) qo21
theorem dL_law_1143 : decode cL_law 1143 = .ok (.iconst 1, 1) := qr0 (P := 1088) (o := 55) (op := 4) qLW17 (by decide +kernel) qo4
theorem dL_law_1144 : decode cL_law 1144 = .ok (.iadd, 1) := qr0 (P := 1088) (o := 56) (op := 96) qLW17 (by decide +kernel) qo96
theorem dL_law_1145 : decode cL_law 1145 = .ok (.iaload, 1) := qr0 (P := 1088) (o := 57) (op := 46) qLW17 (by decide +kernel) qo46
theorem dL_law_1146 : decode cL_law 1146 = .ok (.invokevirtual 234, 3) := qr2 (P := 1088) (o := 58) (op := 182) (v := 234) qLW17 (by decide +kernel) qo182
theorem dL_law_1149 : decode cL_law 1149 = .ok (.istore 7, 2) := qr1 (P := 1088) (o := 61) (op := 54) (v := 7) qLW17 (by decide +kernel) qo54
theorem dL_law_1151 : decode cL_law 1151 = .ok (.goto 762, 3) := qr2 (P := 1088) (o := 63) (op := 167) (v := 762) qLW17 (by decide +kernel) (fun h h2 => qo167 h (qs2 h2 (by decide +kernel)))
theorem dL_law_1154 : decode cL_law 1154 = .ok (.aload_n 1, 1) := qr0 (P := 1152) (o := 2) (op := 43) qLW18 (by decide +kernel) qo43
theorem dL_law_1155 : decode cL_law 1155 = .ok (.aload_n 0, 1) := qr0 (P := 1152) (o := 3) (op := 42) qLW18 (by decide +kernel) qo42
theorem dL_law_1156 : decode cL_law 1156 = .ok (.iload 5, 2) := qr1 (P := 1152) (o := 4) (op := 21) (v := 5) qLW18 (by decide +kernel) qo21
theorem dL_law_1158 : decode cL_law 1158 = .ok (.iconst 1, 1) := qr0 (P := 1152) (o := 6) (op := 4) qLW18 (by decide +kernel) qo4
theorem dL_law_1159 : decode cL_law 1159 = .ok (.iadd, 1) := qr0 (P := 1152) (o := 7) (op := 96) qLW18 (by decide +kernel) qo96
theorem dL_law_1160 : decode cL_law 1160 = .ok (.iaload, 1) := qr0 (P := 1152) (o := 8) (op := 46) qLW18 (by decide +kernel) qo46
theorem dL_law_1161 : decode cL_law 1161 = .ok (.aload_n 0, 1) := qr0 (P := 1152) (o := 9) (op := 42) qLW18 (by decide +kernel) qo42
theorem dL_law_1162 : decode cL_law 1162 = .ok (.iload 5, 2) := qr1 (P := 1152) (o := 10) (op := 21) (v := 5) qLW18 (by decide +kernel) qo21
theorem dL_law_1164 : decode cL_law 1164 = .ok (.iconst 2, 1) := qr0 (P := 1152) (o := 12) (op := 5) qLW18 (by decide +kernel) qo5
theorem dL_law_1165 : decode cL_law 1165 = .ok (.iadd, 1) := qr0 (P := 1152) (o := 13) (op := 96) qLW18 (by decide +kernel) qo96
theorem dL_law_1166 : decode cL_law 1166 = .ok (.iaload, 1) := qr0 (P := 1152) (o := 14) (op := 46) qLW18 (by decide +kernel) qo46
theorem dL_law_1167 : decode cL_law 1167 = .ok (.ifCond .eq 7, 3) := qr2 (P := 1152) (o := 15) (op := 153) (v := 7) qLW18 (by decide +kernel) (fun h h2 => qo153 h (qs2 h2 (by decide +kernel)))
theorem dL_law_1170 : decode cL_law 1170 = .ok (.iconst 1, 1) := qr0 (P := 1152) (o := 18) (op := 4) qLW18 (by decide +kernel) qo4
theorem dL_law_1171 : decode cL_law 1171 = .ok (.goto 4, 3) := qr2 (P := 1152) (o := 19) (op := 167) (v := 4) qLW18 (by decide +kernel) (fun h h2 => qo167 h (qs2 h2 (by decide +kernel)))
theorem dL_law_1174 : decode cL_law 1174 = .ok (.iconst 0, 1) := qr0 (P := 1152) (o := 22) (op := 3) qLW18 (by decide +kernel) qo3
theorem dL_law_1175 : decode cL_law 1175 = .ok (.aload_n 3, 1) := qr0 (P := 1152) (o := 23) (op := 45) qLW18 (by decide +kernel) qo45
theorem dL_law_1176 : decode cL_law 1176 = .ok (.invokestatic 235, 3) := qr2 (P := 1152) (o := 24) (op := 184) (v := 235) qLW18 (by decide +kernel) qo184
theorem dL_law_1179 : decode cL_law 1179 = .ok (.istore 6, 2) := qr1 (P := 1152) (o := 27) (op := 54) (v := 6) qLW18 (by decide +kernel) qo54
theorem dL_law_1181 : decode cL_law 1181 = .ok (.aload_n 2, 1) := qr0 (P := 1152) (o := 29) (op := 44) qLW18 (by decide +kernel) qo44
theorem dL_law_1182 : decode cL_law 1182 = .ok (.aload_n 0, 1) := qr0 (P := 1152) (o := 30) (op := 42) qLW18 (by decide +kernel) qo42
theorem dL_law_1183 : decode cL_law 1183 = .ok (.iload 5, 2) := qr1 (P := 1152) (o := 31) (op := 21) (v := 5) qLW18 (by decide +kernel) qo21
theorem dL_law_1185 : decode cL_law 1185 = .ok (.iconst 1, 1) := qr0 (P := 1152) (o := 33) (op := 4) qLW18 (by decide +kernel) qo4
theorem dL_law_1186 : decode cL_law 1186 = .ok (.iadd, 1) := qr0 (P := 1152) (o := 34) (op := 96) qLW18 (by decide +kernel) qo96
theorem dL_law_1187 : decode cL_law 1187 = .ok (.iaload, 1) := qr0 (P := 1152) (o := 35) (op := 46) qLW18 (by decide +kernel) qo46
theorem dL_law_1188 : decode cL_law 1188 = .ok (.aload_n 0, 1) := qr0 (P := 1152) (o := 36) (op := 42) qLW18 (by decide +kernel) qo42
theorem dL_law_1189 : decode cL_law 1189 = .ok (.iload 5, 2) := qr1 (P := 1152) (o := 37) (op := 21) (v := 5) qLW18 (by decide +kernel) qo21
theorem dL_law_1191 : decode cL_law 1191 = .ok (.iconst 2, 1) := qr0 (P := 1152) (o := 39) (op := 5) qLW18 (by decide +kernel) qo5
theorem dL_law_1192 : decode cL_law 1192 = .ok (.iadd, 1) := qr0 (P := 1152) (o := 40) (op := 96) qLW18 (by decide +kernel) qo96
theorem dL_law_1193 : decode cL_law 1193 = .ok (.iaload, 1) := qr0 (P := 1152) (o := 41) (op := 46) qLW18 (by decide +kernel) qo46
theorem dL_law_1194 : decode cL_law 1194 = .ok (.ifCond .eq 7, 3) := qr2 (P := 1152) (o := 42) (op := 153) (v := 7) qLW18 (by decide +kernel) (fun h h2 => qo153 h (qs2 h2 (by decide +kernel)))
theorem dL_law_1197 : decode cL_law 1197 = .ok (.iconst 1, 1) := qr0 (P := 1152) (o := 45) (op := 4) qLW18 (by decide +kernel) qo4
theorem dL_law_1198 : decode cL_law 1198 = .ok (.goto 4, 3) := qr2 (P := 1152) (o := 46) (op := 167) (v := 4) qLW18 (by decide +kernel) (fun h h2 => qo167 h (qs2 h2 (by decide +kernel)))
theorem dL_law_1201 : decode cL_law 1201 = .ok (.iconst 0, 1) := qr0 (P := 1152) (o := 49) (op := 3) qLW18 (by decide +kernel) qo3
theorem dL_law_1202 : decode cL_law 1202 = .ok (.invokevirtual 238, 3) := qr2 (P := 1152) (o := 50) (op := 182) (v := 238) qLW18 (by decide +kernel) qo182
theorem dL_law_1205 : decode cL_law 1205 = .ok (.istore 7, 2) := qr1 (P := 1152) (o := 53) (op := 54) (v := 7) qLW18 (by decide +kernel) qo54
theorem dL_law_1207 : decode cL_law 1207 = .ok (.goto 706, 3) := qr2 (P := 1152) (o := 55) (op := 167) (v := 706) qLW18 (by decide +kernel) (fun h h2 => qo167 h (qs2 h2 (by decide +kernel)))
theorem dL_law_1210 : decode cL_law 1210 = .ok (.aload_n 1, 1) := qr0 (P := 1152) (o := 58) (op := 43) qLW18 (by decide +kernel) qo43
theorem dL_law_1211 : decode cL_law 1211 = .ok (.aload_n 0, 1) := qr0 (P := 1152) (o := 59) (op := 42) qLW18 (by decide +kernel) qo42
theorem dL_law_1212 : decode cL_law 1212 = .ok (.iload 5, 2) := qr1 (P := 1152) (o := 60) (op := 21) (v := 5) qLW18 (by decide +kernel) qo21
theorem dL_law_1214 : decode cL_law 1214 = .ok (.iconst 1, 1) := qr0 (P := 1152) (o := 62) (op := 4) qLW18 (by decide +kernel) qo4
theorem dL_law_1215 : decode cL_law 1215 = .ok (.iadd, 1) := qr0 (P := 1152) (o := 63) (op := 96) qLW18 (by decide +kernel) qo96
theorem dL_law_1216 : decode cL_law 1216 = .ok (.iaload, 1) := qr0 (P := 1216) (o := 0) (op := 46) qLW19 (by decide +kernel) qo46
theorem dL_law_1217 : decode cL_law 1217 = .ok (.aload_n 0, 1) := qr0 (P := 1216) (o := 1) (op := 42) qLW19 (by decide +kernel) qo42
theorem dL_law_1218 : decode cL_law 1218 = .ok (.iload 5, 2) := qr1 (P := 1216) (o := 2) (op := 21) (v := 5) qLW19 (by decide +kernel) qo21
theorem dL_law_1220 : decode cL_law 1220 = .ok (.iconst 2, 1) := qr0 (P := 1216) (o := 4) (op := 5) qLW19 (by decide +kernel) qo5
theorem dL_law_1221 : decode cL_law 1221 = .ok (.iadd, 1) := qr0 (P := 1216) (o := 5) (op := 96) qLW19 (by decide +kernel) qo96
theorem dL_law_1222 : decode cL_law 1222 = .ok (.iaload, 1) := qr0 (P := 1216) (o := 6) (op := 46) qLW19 (by decide +kernel) qo46
theorem dL_law_1223 : decode cL_law 1223 = .ok (.aload_n 0, 1) := qr0 (P := 1216) (o := 7) (op := 42) qLW19 (by decide +kernel) qo42
theorem dL_law_1224 : decode cL_law 1224 = .ok (.iload 5, 2) := qr1 (P := 1216) (o := 8) (op := 21) (v := 5) qLW19 (by decide +kernel) qo21
theorem dL_law_1226 : decode cL_law 1226 = .ok (.iconst 3, 1) := qr0 (P := 1216) (o := 10) (op := 6) qLW19 (by decide +kernel) qo6
theorem dL_law_1227 : decode cL_law 1227 = .ok (.iadd, 1) := qr0 (P := 1216) (o := 11) (op := 96) qLW19 (by decide +kernel) qo96
theorem dL_law_1228 : decode cL_law 1228 = .ok (.iaload, 1) := qr0 (P := 1216) (o := 12) (op := 46) qLW19 (by decide +kernel) qo46
theorem dL_law_1229 : decode cL_law 1229 = .ok (.aload_n 0, 1) := qr0 (P := 1216) (o := 13) (op := 42) qLW19 (by decide +kernel) qo42
theorem dL_law_1230 : decode cL_law 1230 = .ok (.iload 5, 2) := qr1 (P := 1216) (o := 14) (op := 21) (v := 5) qLW19 (by decide +kernel) qo21
theorem dL_law_1232 : decode cL_law 1232 = .ok (.iconst 4, 1) := qr0 (P := 1216) (o := 16) (op := 7) qLW19 (by decide +kernel) qo7
theorem dL_law_1233 : decode cL_law 1233 = .ok (.iadd, 1) := qr0 (P := 1216) (o := 17) (op := 96) qLW19 (by decide +kernel) qo96
theorem dL_law_1234 : decode cL_law 1234 = .ok (.iaload, 1) := qr0 (P := 1216) (o := 18) (op := 46) qLW19 (by decide +kernel) qo46
theorem dL_law_1235 : decode cL_law 1235 = .ok (.ifCond .eq 7, 3) := qr2 (P := 1216) (o := 19) (op := 153) (v := 7) qLW19 (by decide +kernel) (fun h h2 => qo153 h (qs2 h2 (by decide +kernel)))
theorem dL_law_1238 : decode cL_law 1238 = .ok (.iconst 1, 1) := qr0 (P := 1216) (o := 22) (op := 4) qLW19 (by decide +kernel) qo4
theorem dL_law_1239 : decode cL_law 1239 = .ok (.goto 4, 3) := qr2 (P := 1216) (o := 23) (op := 167) (v := 4) qLW19 (by decide +kernel) (fun h h2 => qo167 h (qs2 h2 (by decide +kernel)))
theorem dL_law_1242 : decode cL_law 1242 = .ok (.iconst 0, 1) := qr0 (P := 1216) (o := 26) (op := 3) qLW19 (by decide +kernel) qo3
theorem dL_law_1243 : decode cL_law 1243 = .ok (.aload_n 3, 1) := qr0 (P := 1216) (o := 27) (op := 45) qLW19 (by decide +kernel) qo45
theorem dL_law_1244 : decode cL_law 1244 = .ok (.invokestatic 239, 3) := qr2 (P := 1216) (o := 28) (op := 184) (v := 239) qLW19 (by decide +kernel) qo184
theorem dL_law_1247 : decode cL_law 1247 = .ok (.istore 6, 2) := qr1 (P := 1216) (o := 31) (op := 54) (v := 6) qLW19 (by decide +kernel) qo54
theorem dL_law_1249 : decode cL_law 1249 = .ok (.aload_n 2, 1) := qr0 (P := 1216) (o := 33) (op := 44) qLW19 (by decide +kernel) qo44
theorem dL_law_1250 : decode cL_law 1250 = .ok (.aload_n 0, 1) := qr0 (P := 1216) (o := 34) (op := 42) qLW19 (by decide +kernel) qo42
theorem dL_law_1251 : decode cL_law 1251 = .ok (.iload 5, 2) := qr1 (P := 1216) (o := 35) (op := 21) (v := 5) qLW19 (by decide +kernel) qo21
theorem dL_law_1253 : decode cL_law 1253 = .ok (.iconst 1, 1) := qr0 (P := 1216) (o := 37) (op := 4) qLW19 (by decide +kernel) qo4
theorem dL_law_1254 : decode cL_law 1254 = .ok (.iadd, 1) := qr0 (P := 1216) (o := 38) (op := 96) qLW19 (by decide +kernel) qo96
theorem dL_law_1255 : decode cL_law 1255 = .ok (.iaload, 1) := qr0 (P := 1216) (o := 39) (op := 46) qLW19 (by decide +kernel) qo46
theorem dL_law_1256 : decode cL_law 1256 = .ok (.aload_n 0, 1) := qr0 (P := 1216) (o := 40) (op := 42) qLW19 (by decide +kernel) qo42
theorem dL_law_1257 : decode cL_law 1257 = .ok (.iload 5, 2) := qr1 (P := 1216) (o := 41) (op := 21) (v := 5) qLW19 (by decide +kernel) qo21
theorem dL_law_1259 : decode cL_law 1259 = .ok (.iconst 2, 1) := qr0 (P := 1216) (o := 43) (op := 5) qLW19 (by decide +kernel) qo5
theorem dL_law_1260 : decode cL_law 1260 = .ok (.iadd, 1) := qr0 (P := 1216) (o := 44) (op := 96) qLW19 (by decide +kernel) qo96
theorem dL_law_1261 : decode cL_law 1261 = .ok (.iaload, 1) := qr0 (P := 1216) (o := 45) (op := 46) qLW19 (by decide +kernel) qo46
theorem dL_law_1262 : decode cL_law 1262 = .ok (.aload_n 0, 1) := qr0 (P := 1216) (o := 46) (op := 42) qLW19 (by decide +kernel) qo42
theorem dL_law_1263 : decode cL_law 1263 = .ok (.iload 5, 2) := qr1 (P := 1216) (o := 47) (op := 21) (v := 5) qLW19 (by decide +kernel) qo21
theorem dL_law_1265 : decode cL_law 1265 = .ok (.iconst 3, 1) := qr0 (P := 1216) (o := 49) (op := 6) qLW19 (by decide +kernel) qo6
theorem dL_law_1266 : decode cL_law 1266 = .ok (.iadd, 1) := qr0 (P := 1216) (o := 50) (op := 96) qLW19 (by decide +kernel) qo96
theorem dL_law_1267 : decode cL_law 1267 = .ok (.iaload, 1) := qr0 (P := 1216) (o := 51) (op := 46) qLW19 (by decide +kernel) qo46
theorem dL_law_1268 : decode cL_law 1268 = .ok (.aload_n 0, 1) := qr0 (P := 1216) (o := 52) (op := 42) qLW19 (by decide +kernel) qo42
theorem dL_law_1269 : decode cL_law 1269 = .ok (.iload 5, 2) := qr1 (P := 1216) (o := 53) (op := 21) (v := 5) qLW19 (by decide +kernel) qo21
theorem dL_law_1271 : decode cL_law 1271 = .ok (.iconst 4, 1) := qr0 (P := 1216) (o := 55) (op := 7) qLW19 (by decide +kernel) qo7
theorem dL_law_1272 : decode cL_law 1272 = .ok (.iadd, 1) := qr0 (P := 1216) (o := 56) (op := 96) qLW19 (by decide +kernel) qo96
theorem dL_law_1273 : decode cL_law 1273 = .ok (.iaload, 1) := qr0 (P := 1216) (o := 57) (op := 46) qLW19 (by decide +kernel) qo46
theorem dL_law_1274 : decode cL_law 1274 = .ok (.ifCond .eq 7, 3) := qr2 (P := 1216) (o := 58) (op := 153) (v := 7) qLW19 (by decide +kernel) (fun h h2 => qo153 h (qs2 h2 (by decide +kernel)))
theorem dL_law_1277 : decode cL_law 1277 = .ok (.iconst 1, 1) := qr0 (P := 1216) (o := 61) (op := 4) qLW19 (by decide +kernel) qo4
theorem dL_law_1278 : decode cL_law 1278 = .ok (.goto 4, 3) := qr2 (P := 1216) (o := 62) (op := 167) (v := 4) qLW19 (by decide +kernel) (fun h h2 => qo167 h (qs2 h2 (by decide +kernel)))
theorem dL_law_1281 : decode cL_law 1281 = .ok (.iconst 0, 1) := qr0 (P := 1280) (o := 1) (op := 3) qLW20 (by decide +kernel) qo3
theorem dL_law_1282 : decode cL_law 1282 = .ok (.invokevirtual 242, 3) := qr2 (P := 1280) (o := 2) (op := 182) (v := 242) qLW20 (by decide +kernel) qo182
theorem dL_law_1285 : decode cL_law 1285 = .ok (.istore 7, 2) := qr1 (P := 1280) (o := 5) (op := 54) (v := 7) qLW20 (by decide +kernel) qo54
theorem dL_law_1287 : decode cL_law 1287 = .ok (.goto 626, 3) := qr2 (P := 1280) (o := 7) (op := 167) (v := 626) qLW20 (by decide +kernel) (fun h h2 => qo167 h (qs2 h2 (by decide +kernel)))
theorem dL_law_1290 : decode cL_law 1290 = .ok (.aload_n 1, 1) := qr0 (P := 1280) (o := 10) (op := 43) qLW20 (by decide +kernel) qo43
theorem dL_law_1291 : decode cL_law 1291 = .ok (.aload_n 0, 1) := qr0 (P := 1280) (o := 11) (op := 42) qLW20 (by decide +kernel) qo42
theorem dL_law_1292 : decode cL_law 1292 = .ok (.iload 5, 2) := qr1 (P := 1280) (o := 12) (op := 21) (v := 5) qLW20 (by decide +kernel) qo21
theorem dL_law_1294 : decode cL_law 1294 = .ok (.iconst 1, 1) := qr0 (P := 1280) (o := 14) (op := 4) qLW20 (by decide +kernel) qo4
theorem dL_law_1295 : decode cL_law 1295 = .ok (.iadd, 1) := qr0 (P := 1280) (o := 15) (op := 96) qLW20 (by decide +kernel) qo96
theorem dL_law_1296 : decode cL_law 1296 = .ok (.iaload, 1) := qr0 (P := 1280) (o := 16) (op := 46) qLW20 (by decide +kernel) qo46
theorem dL_law_1297 : decode cL_law 1297 = .ok (.aload_n 0, 1) := qr0 (P := 1280) (o := 17) (op := 42) qLW20 (by decide +kernel) qo42
theorem dL_law_1298 : decode cL_law 1298 = .ok (.iload 5, 2) := qr1 (P := 1280) (o := 18) (op := 21) (v := 5) qLW20 (by decide +kernel) qo21
theorem dL_law_1300 : decode cL_law 1300 = .ok (.iconst 2, 1) := qr0 (P := 1280) (o := 20) (op := 5) qLW20 (by decide +kernel) qo5
theorem dL_law_1301 : decode cL_law 1301 = .ok (.iadd, 1) := qr0 (P := 1280) (o := 21) (op := 96) qLW20 (by decide +kernel) qo96
theorem dL_law_1302 : decode cL_law 1302 = .ok (.iaload, 1) := qr0 (P := 1280) (o := 22) (op := 46) qLW20 (by decide +kernel) qo46
theorem dL_law_1303 : decode cL_law 1303 = .ok (.aload_n 0, 1) := qr0 (P := 1280) (o := 23) (op := 42) qLW20 (by decide +kernel) qo42
theorem dL_law_1304 : decode cL_law 1304 = .ok (.iload 5, 2) := qr1 (P := 1280) (o := 24) (op := 21) (v := 5) qLW20 (by decide +kernel) qo21
theorem dL_law_1306 : decode cL_law 1306 = .ok (.iconst 3, 1) := qr0 (P := 1280) (o := 26) (op := 6) qLW20 (by decide +kernel) qo6
theorem dL_law_1307 : decode cL_law 1307 = .ok (.iadd, 1) := qr0 (P := 1280) (o := 27) (op := 96) qLW20 (by decide +kernel) qo96
theorem dL_law_1308 : decode cL_law 1308 = .ok (.iaload, 1) := qr0 (P := 1280) (o := 28) (op := 46) qLW20 (by decide +kernel) qo46
theorem dL_law_1309 : decode cL_law 1309 = .ok (.aload_n 3, 1) := qr0 (P := 1280) (o := 29) (op := 45) qLW20 (by decide +kernel) qo45
theorem dL_law_1310 : decode cL_law 1310 = .ok (.invokestatic 243, 3) := qr2 (P := 1280) (o := 30) (op := 184) (v := 243) qLW20 (by decide +kernel) qo184
theorem dL_law_1313 : decode cL_law 1313 = .ok (.istore 6, 2) := qr1 (P := 1280) (o := 33) (op := 54) (v := 6) qLW20 (by decide +kernel) qo54
theorem dL_law_1315 : decode cL_law 1315 = .ok (.aload_n 2, 1) := qr0 (P := 1280) (o := 35) (op := 44) qLW20 (by decide +kernel) qo44
theorem dL_law_1316 : decode cL_law 1316 = .ok (.aload_n 0, 1) := qr0 (P := 1280) (o := 36) (op := 42) qLW20 (by decide +kernel) qo42
theorem dL_law_1317 : decode cL_law 1317 = .ok (.iload 5, 2) := qr1 (P := 1280) (o := 37) (op := 21) (v := 5) qLW20 (by decide +kernel) qo21
theorem dL_law_1319 : decode cL_law 1319 = .ok (.iconst 1, 1) := qr0 (P := 1280) (o := 39) (op := 4) qLW20 (by decide +kernel) qo4
theorem dL_law_1320 : decode cL_law 1320 = .ok (.iadd, 1) := qr0 (P := 1280) (o := 40) (op := 96) qLW20 (by decide +kernel) qo96
theorem dL_law_1321 : decode cL_law 1321 = .ok (.iaload, 1) := qr0 (P := 1280) (o := 41) (op := 46) qLW20 (by decide +kernel) qo46
theorem dL_law_1322 : decode cL_law 1322 = .ok (.aload_n 0, 1) := qr0 (P := 1280) (o := 42) (op := 42) qLW20 (by decide +kernel) qo42
theorem dL_law_1323 : decode cL_law 1323 = .ok (.iload 5, 2) := qr1 (P := 1280) (o := 43) (op := 21) (v := 5) qLW20 (by decide +kernel) qo21
theorem dL_law_1325 : decode cL_law 1325 = .ok (.iconst 2, 1) := qr0 (P := 1280) (o := 45) (op := 5) qLW20 (by decide +kernel) qo5
theorem dL_law_1326 : decode cL_law 1326 = .ok (.iadd, 1) := qr0 (P := 1280) (o := 46) (op := 96) qLW20 (by decide +kernel) qo96
theorem dL_law_1327 : decode cL_law 1327 = .ok (.iaload, 1) := qr0 (P := 1280) (o := 47) (op := 46) qLW20 (by decide +kernel) qo46
theorem dL_law_1328 : decode cL_law 1328 = .ok (.aload_n 0, 1) := qr0 (P := 1280) (o := 48) (op := 42) qLW20 (by decide +kernel) qo42
theorem dL_law_1329 : decode cL_law 1329 = .ok (.iload 5, 2) := qr1 (P := 1280) (o := 49) (op := 21) (v := 5) qLW20 (by decide +kernel) qo21
theorem dL_law_1331 : decode cL_law 1331 = .ok (.iconst 3, 1) := qr0 (P := 1280) (o := 51) (op := 6) qLW20 (by decide +kernel) qo6
theorem dL_law_1332 : decode cL_law 1332 = .ok (.iadd, 1) := qr0 (P := 1280) (o := 52) (op := 96) qLW20 (by decide +kernel) qo96
theorem dL_law_1333 : decode cL_law 1333 = .ok (.iaload, 1) := qr0 (P := 1280) (o := 53) (op := 46) qLW20 (by decide +kernel) qo46
theorem dL_law_1334 : decode cL_law 1334 = .ok (.invokevirtual 245, 3) := qr2 (P := 1280) (o := 54) (op := 182) (v := 245) qLW20 (by decide +kernel) qo182
theorem dL_law_1337 : decode cL_law 1337 = .ok (.istore 7, 2) := qr1 (P := 1280) (o := 57) (op := 54) (v := 7) qLW20 (by decide +kernel) qo54
theorem dL_law_1339 : decode cL_law 1339 = .ok (.goto 574, 3) := qr2 (P := 1280) (o := 59) (op := 167) (v := 574) qLW20 (by decide +kernel) (fun h h2 => qo167 h (qs2 h2 (by decide +kernel)))
theorem dL_law_1342 : decode cL_law 1342 = .ok (.aload_n 1, 1) := qr0 (P := 1280) (o := 62) (op := 43) qLW20 (by decide +kernel) qo43
theorem dL_law_1343 : decode cL_law 1343 = .ok (.aload_n 0, 1) := qr0 (P := 1280) (o := 63) (op := 42) qLW20 (by decide +kernel) qo42
theorem dL_law_1344 : decode cL_law 1344 = .ok (.iload 5, 2) := qr1 (P := 1344) (o := 0) (op := 21) (v := 5) qLW21 (by decide +kernel) qo21
theorem dL_law_1346 : decode cL_law 1346 = .ok (.iconst 1, 1) := qr0 (P := 1344) (o := 2) (op := 4) qLW21 (by decide +kernel) qo4
theorem dL_law_1347 : decode cL_law 1347 = .ok (.iadd, 1) := qr0 (P := 1344) (o := 3) (op := 96) qLW21 (by decide +kernel) qo96
theorem dL_law_1348 : decode cL_law 1348 = .ok (.iaload, 1) := qr0 (P := 1344) (o := 4) (op := 46) qLW21 (by decide +kernel) qo46
theorem dL_law_1349 : decode cL_law 1349 = .ok (.aload_n 3, 1) := qr0 (P := 1344) (o := 5) (op := 45) qLW21 (by decide +kernel) qo45
theorem dL_law_1350 : decode cL_law 1350 = .ok (.invokestatic 246, 3) := qr2 (P := 1344) (o := 6) (op := 184) (v := 246) qLW21 (by decide +kernel) qo184
theorem dL_law_1353 : decode cL_law 1353 = .ok (.istore 6, 2) := qr1 (P := 1344) (o := 9) (op := 54) (v := 6) qLW21 (by decide +kernel) qo54
theorem dL_law_1355 : decode cL_law 1355 = .ok (.aload_n 2, 1) := qr0 (P := 1344) (o := 11) (op := 44) qLW21 (by decide +kernel) qo44
theorem dL_law_1356 : decode cL_law 1356 = .ok (.aload_n 0, 1) := qr0 (P := 1344) (o := 12) (op := 42) qLW21 (by decide +kernel) qo42
theorem dL_law_1357 : decode cL_law 1357 = .ok (.iload 5, 2) := qr1 (P := 1344) (o := 13) (op := 21) (v := 5) qLW21 (by decide +kernel) qo21
theorem dL_law_1359 : decode cL_law 1359 = .ok (.iconst 1, 1) := qr0 (P := 1344) (o := 15) (op := 4) qLW21 (by decide +kernel) qo4
theorem dL_law_1360 : decode cL_law 1360 = .ok (.iadd, 1) := qr0 (P := 1344) (o := 16) (op := 96) qLW21 (by decide +kernel) qo96
theorem dL_law_1361 : decode cL_law 1361 = .ok (.iaload, 1) := qr0 (P := 1344) (o := 17) (op := 46) qLW21 (by decide +kernel) qo46
theorem dL_law_1362 : decode cL_law 1362 = .ok (.invokevirtual 248, 3) := qr2 (P := 1344) (o := 18) (op := 182) (v := 248) qLW21 (by decide +kernel) qo182
theorem dL_law_1365 : decode cL_law 1365 = .ok (.istore 7, 2) := qr1 (P := 1344) (o := 21) (op := 54) (v := 7) qLW21 (by decide +kernel) qo54
theorem dL_law_1367 : decode cL_law 1367 = .ok (.goto 546, 3) := qr2 (P := 1344) (o := 23) (op := 167) (v := 546) qLW21 (by decide +kernel) (fun h h2 => qo167 h (qs2 h2 (by decide +kernel)))
theorem dL_law_1370 : decode cL_law 1370 = .ok (.aload_n 1, 1) := qr0 (P := 1344) (o := 26) (op := 43) qLW21 (by decide +kernel) qo43
theorem dL_law_1371 : decode cL_law 1371 = .ok (.aload_n 0, 1) := qr0 (P := 1344) (o := 27) (op := 42) qLW21 (by decide +kernel) qo42
theorem dL_law_1372 : decode cL_law 1372 = .ok (.iload 5, 2) := qr1 (P := 1344) (o := 28) (op := 21) (v := 5) qLW21 (by decide +kernel) qo21
theorem dL_law_1374 : decode cL_law 1374 = .ok (.iconst 1, 1) := qr0 (P := 1344) (o := 30) (op := 4) qLW21 (by decide +kernel) qo4
theorem dL_law_1375 : decode cL_law 1375 = .ok (.iadd, 1) := qr0 (P := 1344) (o := 31) (op := 96) qLW21 (by decide +kernel) qo96
theorem dL_law_1376 : decode cL_law 1376 = .ok (.iaload, 1) := qr0 (P := 1344) (o := 32) (op := 46) qLW21 (by decide +kernel) qo46
theorem dL_law_1377 : decode cL_law 1377 = .ok (.aload_n 0, 1) := qr0 (P := 1344) (o := 33) (op := 42) qLW21 (by decide +kernel) qo42
theorem dL_law_1378 : decode cL_law 1378 = .ok (.iload 5, 2) := qr1 (P := 1344) (o := 34) (op := 21) (v := 5) qLW21 (by decide +kernel) qo21
theorem dL_law_1380 : decode cL_law 1380 = .ok (.iconst 2, 1) := qr0 (P := 1344) (o := 36) (op := 5) qLW21 (by decide +kernel) qo5
theorem dL_law_1381 : decode cL_law 1381 = .ok (.iadd, 1) := qr0 (P := 1344) (o := 37) (op := 96) qLW21 (by decide +kernel) qo96
theorem dL_law_1382 : decode cL_law 1382 = .ok (.iaload, 1) := qr0 (P := 1344) (o := 38) (op := 46) qLW21 (by decide +kernel) qo46
theorem dL_law_1383 : decode cL_law 1383 = .ok (.aload_n 3, 1) := qr0 (P := 1344) (o := 39) (op := 45) qLW21 (by decide +kernel) qo45
theorem dL_law_1384 : decode cL_law 1384 = .ok (.invokestatic 249, 3) := qr2 (P := 1344) (o := 40) (op := 184) (v := 249) qLW21 (by decide +kernel) qo184
theorem dL_law_1387 : decode cL_law 1387 = .ok (.istore 6, 2) := qr1 (P := 1344) (o := 43) (op := 54) (v := 6) qLW21 (by decide +kernel) qo54
theorem dL_law_1389 : decode cL_law 1389 = .ok (.aload_n 2, 1) := qr0 (P := 1344) (o := 45) (op := 44) qLW21 (by decide +kernel) qo44
theorem dL_law_1390 : decode cL_law 1390 = .ok (.aload_n 0, 1) := qr0 (P := 1344) (o := 46) (op := 42) qLW21 (by decide +kernel) qo42
theorem dL_law_1391 : decode cL_law 1391 = .ok (.iload 5, 2) := qr1 (P := 1344) (o := 47) (op := 21) (v := 5) qLW21 (by decide +kernel) qo21
theorem dL_law_1393 : decode cL_law 1393 = .ok (.iconst 1, 1) := qr0 (P := 1344) (o := 49) (op := 4) qLW21 (by decide +kernel) qo4
theorem dL_law_1394 : decode cL_law 1394 = .ok (.iadd, 1) := qr0 (P := 1344) (o := 50) (op := 96) qLW21 (by decide +kernel) qo96
theorem dL_law_1395 : decode cL_law 1395 = .ok (.iaload, 1) := qr0 (P := 1344) (o := 51) (op := 46) qLW21 (by decide +kernel) qo46
theorem dL_law_1396 : decode cL_law 1396 = .ok (.aload_n 0, 1) := qr0 (P := 1344) (o := 52) (op := 42) qLW21 (by decide +kernel) qo42
theorem dL_law_1397 : decode cL_law 1397 = .ok (.iload 5, 2) := qr1 (P := 1344) (o := 53) (op := 21) (v := 5) qLW21 (by decide +kernel) qo21
theorem dL_law_1399 : decode cL_law 1399 = .ok (.iconst 2, 1) := qr0 (P := 1344) (o := 55) (op := 5) qLW21 (by decide +kernel) qo5
theorem dL_law_1400 : decode cL_law 1400 = .ok (.iadd, 1) := qr0 (P := 1344) (o := 56) (op := 96) qLW21 (by decide +kernel) qo96
theorem dL_law_1401 : decode cL_law 1401 = .ok (.iaload, 1) := qr0 (P := 1344) (o := 57) (op := 46) qLW21 (by decide +kernel) qo46
theorem dL_law_1402 : decode cL_law 1402 = .ok (.invokevirtual 251, 3) := qr2 (P := 1344) (o := 58) (op := 182) (v := 251) qLW21 (by decide +kernel) qo182
theorem dL_law_1405 : decode cL_law 1405 = .ok (.istore 7, 2) := qr1 (P := 1344) (o := 61) (op := 54) (v := 7) qLW21 (by decide +kernel) qo54
theorem dL_law_1407 : decode cL_law 1407 = .ok (.goto 506, 3) := qr2 (P := 1344) (o := 63) (op := 167) (v := 506) qLW21 (by decide +kernel) (fun h h2 => qo167 h (qs2 h2 (by decide +kernel)))
theorem dL_law_1410 : decode cL_law 1410 = .ok (.aload_n 1, 1) := qr0 (P := 1408) (o := 2) (op := 43) qLW22 (by decide +kernel) qo43
theorem dL_law_1411 : decode cL_law 1411 = .ok (.aload_n 0, 1) := qr0 (P := 1408) (o := 3) (op := 42) qLW22 (by decide +kernel) qo42
theorem dL_law_1412 : decode cL_law 1412 = .ok (.iload 5, 2) := qr1 (P := 1408) (o := 4) (op := 21) (v := 5) qLW22 (by decide +kernel) qo21
theorem dL_law_1414 : decode cL_law 1414 = .ok (.iconst 1, 1) := qr0 (P := 1408) (o := 6) (op := 4) qLW22 (by decide +kernel) qo4
theorem dL_law_1415 : decode cL_law 1415 = .ok (.iadd, 1) := qr0 (P := 1408) (o := 7) (op := 96) qLW22 (by decide +kernel) qo96
theorem dL_law_1416 : decode cL_law 1416 = .ok (.iaload, 1) := qr0 (P := 1408) (o := 8) (op := 46) qLW22 (by decide +kernel) qo46
theorem dL_law_1417 : decode cL_law 1417 = .ok (.aload_n 0, 1) := qr0 (P := 1408) (o := 9) (op := 42) qLW22 (by decide +kernel) qo42
theorem dL_law_1418 : decode cL_law 1418 = .ok (.iload 5, 2) := qr1 (P := 1408) (o := 10) (op := 21) (v := 5) qLW22 (by decide +kernel) qo21
theorem dL_law_1420 : decode cL_law 1420 = .ok (.iconst 2, 1) := qr0 (P := 1408) (o := 12) (op := 5) qLW22 (by decide +kernel) qo5
theorem dL_law_1421 : decode cL_law 1421 = .ok (.iadd, 1) := qr0 (P := 1408) (o := 13) (op := 96) qLW22 (by decide +kernel) qo96
theorem dL_law_1422 : decode cL_law 1422 = .ok (.iaload, 1) := qr0 (P := 1408) (o := 14) (op := 46) qLW22 (by decide +kernel) qo46
theorem dL_law_1423 : decode cL_law 1423 = .ok (.aload_n 3, 1) := qr0 (P := 1408) (o := 15) (op := 45) qLW22 (by decide +kernel) qo45
theorem dL_law_1424 : decode cL_law 1424 = .ok (.invokestatic 252, 3) := qr2 (P := 1408) (o := 16) (op := 184) (v := 252) qLW22 (by decide +kernel) qo184
theorem dL_law_1427 : decode cL_law 1427 = .ok (.istore 6, 2) := qr1 (P := 1408) (o := 19) (op := 54) (v := 6) qLW22 (by decide +kernel) qo54
theorem dL_law_1429 : decode cL_law 1429 = .ok (.aload_n 2, 1) := qr0 (P := 1408) (o := 21) (op := 44) qLW22 (by decide +kernel) qo44
theorem dL_law_1430 : decode cL_law 1430 = .ok (.aload_n 0, 1) := qr0 (P := 1408) (o := 22) (op := 42) qLW22 (by decide +kernel) qo42
theorem dL_law_1431 : decode cL_law 1431 = .ok (.iload 5, 2) := qr1 (P := 1408) (o := 23) (op := 21) (v := 5) qLW22 (by decide +kernel) qo21
theorem dL_law_1433 : decode cL_law 1433 = .ok (.iconst 1, 1) := qr0 (P := 1408) (o := 25) (op := 4) qLW22 (by decide +kernel) qo4
theorem dL_law_1434 : decode cL_law 1434 = .ok (.iadd, 1) := qr0 (P := 1408) (o := 26) (op := 96) qLW22 (by decide +kernel) qo96
theorem dL_law_1435 : decode cL_law 1435 = .ok (.iaload, 1) := qr0 (P := 1408) (o := 27) (op := 46) qLW22 (by decide +kernel) qo46
theorem dL_law_1436 : decode cL_law 1436 = .ok (.aload_n 0, 1) := qr0 (P := 1408) (o := 28) (op := 42) qLW22 (by decide +kernel) qo42
theorem dL_law_1437 : decode cL_law 1437 = .ok (.iload 5, 2) := qr1 (P := 1408) (o := 29) (op := 21) (v := 5) qLW22 (by decide +kernel) qo21
theorem dL_law_1439 : decode cL_law 1439 = .ok (.iconst 2, 1) := qr0 (P := 1408) (o := 31) (op := 5) qLW22 (by decide +kernel) qo5
theorem dL_law_1440 : decode cL_law 1440 = .ok (.iadd, 1) := qr0 (P := 1408) (o := 32) (op := 96) qLW22 (by decide +kernel) qo96
theorem dL_law_1441 : decode cL_law 1441 = .ok (.iaload, 1) := qr0 (P := 1408) (o := 33) (op := 46) qLW22 (by decide +kernel) qo46
theorem dL_law_1442 : decode cL_law 1442 = .ok (.invokevirtual 254, 3) := qr2 (P := 1408) (o := 34) (op := 182) (v := 254) qLW22 (by decide +kernel) qo182
theorem dL_law_1445 : decode cL_law 1445 = .ok (.istore 7, 2) := qr1 (P := 1408) (o := 37) (op := 54) (v := 7) qLW22 (by decide +kernel) qo54
theorem dL_law_1447 : decode cL_law 1447 = .ok (.goto 466, 3) := qr2 (P := 1408) (o := 39) (op := 167) (v := 466) qLW22 (by decide +kernel) (fun h h2 => qo167 h (qs2 h2 (by decide +kernel)))
theorem dL_law_1450 : decode cL_law 1450 = .ok (.aload_n 1, 1) := qr0 (P := 1408) (o := 42) (op := 43) qLW22 (by decide +kernel) qo43
theorem dL_law_1451 : decode cL_law 1451 = .ok (.aload_n 0, 1) := qr0 (P := 1408) (o := 43) (op := 42) qLW22 (by decide +kernel) qo42
theorem dL_law_1452 : decode cL_law 1452 = .ok (.iload 5, 2) := qr1 (P := 1408) (o := 44) (op := 21) (v := 5) qLW22 (by decide +kernel) qo21
theorem dL_law_1454 : decode cL_law 1454 = .ok (.iconst 1, 1) := qr0 (P := 1408) (o := 46) (op := 4) qLW22 (by decide +kernel) qo4
theorem dL_law_1455 : decode cL_law 1455 = .ok (.iadd, 1) := qr0 (P := 1408) (o := 47) (op := 96) qLW22 (by decide +kernel) qo96
theorem dL_law_1456 : decode cL_law 1456 = .ok (.iaload, 1) := qr0 (P := 1408) (o := 48) (op := 46) qLW22 (by decide +kernel) qo46
theorem dL_law_1457 : decode cL_law 1457 = .ok (.aload_n 0, 1) := qr0 (P := 1408) (o := 49) (op := 42) qLW22 (by decide +kernel) qo42
theorem dL_law_1458 : decode cL_law 1458 = .ok (.iload 5, 2) := qr1 (P := 1408) (o := 50) (op := 21) (v := 5) qLW22 (by decide +kernel) qo21
theorem dL_law_1460 : decode cL_law 1460 = .ok (.iconst 2, 1) := qr0 (P := 1408) (o := 52) (op := 5) qLW22 (by decide +kernel) qo5
theorem dL_law_1461 : decode cL_law 1461 = .ok (.iadd, 1) := qr0 (P := 1408) (o := 53) (op := 96) qLW22 (by decide +kernel) qo96
theorem dL_law_1462 : decode cL_law 1462 = .ok (.iaload, 1) := qr0 (P := 1408) (o := 54) (op := 46) qLW22 (by decide +kernel) qo46
theorem dL_law_1463 : decode cL_law 1463 = .ok (.aload_n 0, 1) := qr0 (P := 1408) (o := 55) (op := 42) qLW22 (by decide +kernel) qo42
theorem dL_law_1464 : decode cL_law 1464 = .ok (.iload 5, 2) := qr1 (P := 1408) (o := 56) (op := 21) (v := 5) qLW22 (by decide +kernel) qo21
theorem dL_law_1466 : decode cL_law 1466 = .ok (.iconst 3, 1) := qr0 (P := 1408) (o := 58) (op := 6) qLW22 (by decide +kernel) qo6
theorem dL_law_1467 : decode cL_law 1467 = .ok (.iadd, 1) := qr0 (P := 1408) (o := 59) (op := 96) qLW22 (by decide +kernel) qo96
theorem dL_law_1468 : decode cL_law 1468 = .ok (.iaload, 1) := qr0 (P := 1408) (o := 60) (op := 46) qLW22 (by decide +kernel) qo46
theorem dL_law_1469 : decode cL_law 1469 = .ok (.ifCond .eq 7, 3) := qr2 (P := 1408) (o := 61) (op := 153) (v := 7) qLW22 (by decide +kernel) (fun h h2 => qo153 h (qs2 h2 (by decide +kernel)))
theorem dL_law_1472 : decode cL_law 1472 = .ok (.iconst 1, 1) := qr0 (P := 1472) (o := 0) (op := 4) qLW23 (by decide +kernel) qo4
theorem dL_law_1473 : decode cL_law 1473 = .ok (.goto 4, 3) := qr2 (P := 1472) (o := 1) (op := 167) (v := 4) qLW23 (by decide +kernel) (fun h h2 => qo167 h (qs2 h2 (by decide +kernel)))
theorem dL_law_1476 : decode cL_law 1476 = .ok (.iconst 0, 1) := qr0 (P := 1472) (o := 4) (op := 3) qLW23 (by decide +kernel) qo3
theorem dL_law_1477 : decode cL_law 1477 = .ok (.aload_n 3, 1) := qr0 (P := 1472) (o := 5) (op := 45) qLW23 (by decide +kernel) qo45
theorem dL_law_1478 : decode cL_law 1478 = .ok (.invokestatic 255, 3) := qr2 (P := 1472) (o := 6) (op := 184) (v := 255) qLW23 (by decide +kernel) qo184
theorem dL_law_1481 : decode cL_law 1481 = .ok (.istore 6, 2) := qr1 (P := 1472) (o := 9) (op := 54) (v := 6) qLW23 (by decide +kernel) qo54
theorem dL_law_1483 : decode cL_law 1483 = .ok (.aload_n 2, 1) := qr0 (P := 1472) (o := 11) (op := 44) qLW23 (by decide +kernel) qo44
theorem dL_law_1484 : decode cL_law 1484 = .ok (.aload_n 0, 1) := qr0 (P := 1472) (o := 12) (op := 42) qLW23 (by decide +kernel) qo42
theorem dL_law_1485 : decode cL_law 1485 = .ok (.iload 5, 2) := qr1 (P := 1472) (o := 13) (op := 21) (v := 5) qLW23 (by decide +kernel) qo21
theorem dL_law_1487 : decode cL_law 1487 = .ok (.iconst 1, 1) := qr0 (P := 1472) (o := 15) (op := 4) qLW23 (by decide +kernel) qo4
theorem dL_law_1488 : decode cL_law 1488 = .ok (.iadd, 1) := qr0 (P := 1472) (o := 16) (op := 96) qLW23 (by decide +kernel) qo96
theorem dL_law_1489 : decode cL_law 1489 = .ok (.iaload, 1) := qr0 (P := 1472) (o := 17) (op := 46) qLW23 (by decide +kernel) qo46
theorem dL_law_1490 : decode cL_law 1490 = .ok (.aload_n 0, 1) := qr0 (P := 1472) (o := 18) (op := 42) qLW23 (by decide +kernel) qo42
theorem dL_law_1491 : decode cL_law 1491 = .ok (.iload 5, 2) := qr1 (P := 1472) (o := 19) (op := 21) (v := 5) qLW23 (by decide +kernel) qo21
theorem dL_law_1493 : decode cL_law 1493 = .ok (.iconst 2, 1) := qr0 (P := 1472) (o := 21) (op := 5) qLW23 (by decide +kernel) qo5
theorem dL_law_1494 : decode cL_law 1494 = .ok (.iadd, 1) := qr0 (P := 1472) (o := 22) (op := 96) qLW23 (by decide +kernel) qo96
theorem dL_law_1495 : decode cL_law 1495 = .ok (.iaload, 1) := qr0 (P := 1472) (o := 23) (op := 46) qLW23 (by decide +kernel) qo46
theorem dL_law_1496 : decode cL_law 1496 = .ok (.aload_n 0, 1) := qr0 (P := 1472) (o := 24) (op := 42) qLW23 (by decide +kernel) qo42
theorem dL_law_1497 : decode cL_law 1497 = .ok (.iload 5, 2) := qr1 (P := 1472) (o := 25) (op := 21) (v := 5) qLW23 (by decide +kernel) qo21
theorem dL_law_1499 : decode cL_law 1499 = .ok (.iconst 3, 1) := qr0 (P := 1472) (o := 27) (op := 6) qLW23 (by decide +kernel) qo6
theorem dL_law_1500 : decode cL_law 1500 = .ok (.iadd, 1) := qr0 (P := 1472) (o := 28) (op := 96) qLW23 (by decide +kernel) qo96
theorem dL_law_1501 : decode cL_law 1501 = .ok (.iaload, 1) := qr0 (P := 1472) (o := 29) (op := 46) qLW23 (by decide +kernel) qo46
theorem dL_law_1502 : decode cL_law 1502 = .ok (.ifCond .eq 7, 3) := qr2 (P := 1472) (o := 30) (op := 153) (v := 7) qLW23 (by decide +kernel) (fun h h2 => qo153 h (qs2 h2 (by decide +kernel)))
theorem dL_law_1505 : decode cL_law 1505 = .ok (.iconst 1, 1) := qr0 (P := 1472) (o := 33) (op := 4) qLW23 (by decide +kernel) qo4
theorem dL_law_1506 : decode cL_law 1506 = .ok (.goto 4, 3) := qr2 (P := 1472) (o := 34) (op := 167) (v := 4) qLW23 (by decide +kernel) (fun h h2 => qo167 h (qs2 h2 (by decide +kernel)))
theorem dL_law_1509 : decode cL_law 1509 = .ok (.iconst 0, 1) := qr0 (P := 1472) (o := 37) (op := 3) qLW23 (by decide +kernel) qo3
theorem dL_law_1510 : decode cL_law 1510 = .ok (.invokevirtual 258, 3) := qr2 (P := 1472) (o := 38) (op := 182) (v := 258) qLW23 (by decide +kernel) qo182
theorem dL_law_1513 : decode cL_law 1513 = .ok (.lstore 7, 2) := qr1 (P := 1472) (o := 41) (op := 55) (v := 7) qLW23 (by decide +kernel) qo55
theorem dL_law_1515 : decode cL_law 1515 = .ok (.goto 398, 3) := qr2 (P := 1472) (o := 43) (op := 167) (v := 398) qLW23 (by decide +kernel) (fun h h2 => qo167 h (qs2 h2 (by decide +kernel)))
theorem dL_law_1518 : decode cL_law 1518 = .ok (.aload_n 1, 1) := qr0 (P := 1472) (o := 46) (op := 43) qLW23 (by decide +kernel) qo43
theorem dL_law_1519 : decode cL_law 1519 = .ok (.aload_n 0, 1) := qr0 (P := 1472) (o := 47) (op := 42) qLW23 (by decide +kernel) qo42
theorem dL_law_1520 : decode cL_law 1520 = .ok (.iload 5, 2) := qr1 (P := 1472) (o := 48) (op := 21) (v := 5) qLW23 (by decide +kernel) qo21
theorem dL_law_1522 : decode cL_law 1522 = .ok (.iconst 1, 1) := qr0 (P := 1472) (o := 50) (op := 4) qLW23 (by decide +kernel) qo4
theorem dL_law_1523 : decode cL_law 1523 = .ok (.iadd, 1) := qr0 (P := 1472) (o := 51) (op := 96) qLW23 (by decide +kernel) qo96
theorem dL_law_1524 : decode cL_law 1524 = .ok (.iaload, 1) := qr0 (P := 1472) (o := 52) (op := 46) qLW23 (by decide +kernel) qo46
theorem dL_law_1525 : decode cL_law 1525 = .ok (.aload_n 0, 1) := qr0 (P := 1472) (o := 53) (op := 42) qLW23 (by decide +kernel) qo42
theorem dL_law_1526 : decode cL_law 1526 = .ok (.iload 5, 2) := qr1 (P := 1472) (o := 54) (op := 21) (v := 5) qLW23 (by decide +kernel) qo21
theorem dL_law_1528 : decode cL_law 1528 = .ok (.iconst 2, 1) := qr0 (P := 1472) (o := 56) (op := 5) qLW23 (by decide +kernel) qo5
theorem dL_law_1529 : decode cL_law 1529 = .ok (.iadd, 1) := qr0 (P := 1472) (o := 57) (op := 96) qLW23 (by decide +kernel) qo96
theorem dL_law_1530 : decode cL_law 1530 = .ok (.iaload, 1) := qr0 (P := 1472) (o := 58) (op := 46) qLW23 (by decide +kernel) qo46
theorem dL_law_1531 : decode cL_law 1531 = .ok (.aload_n 0, 1) := qr0 (P := 1472) (o := 59) (op := 42) qLW23 (by decide +kernel) qo42
theorem dL_law_1532 : decode cL_law 1532 = .ok (.iload 5, 2) := qr1 (P := 1472) (o := 60) (op := 21) (v := 5) qLW23 (by decide +kernel) qo21
theorem dL_law_1534 : decode cL_law 1534 = .ok (.iconst 3, 1) := qr0 (P := 1472) (o := 62) (op := 6) qLW23 (by decide +kernel) qo6
theorem dL_law_1535 : decode cL_law 1535 = .ok (.iadd, 1) := qr0 (P := 1472) (o := 63) (op := 96) qLW23 (by decide +kernel) qo96
theorem dL_law_1536 : decode cL_law 1536 = .ok (.iaload, 1) := qr0 (P := 1536) (o := 0) (op := 46) qLW24 (by decide +kernel) qo46
theorem dL_law_1537 : decode cL_law 1537 = .ok (.aload_n 0, 1) := qr0 (P := 1536) (o := 1) (op := 42) qLW24 (by decide +kernel) qo42
theorem dL_law_1538 : decode cL_law 1538 = .ok (.iload 5, 2) := qr1 (P := 1536) (o := 2) (op := 21) (v := 5) qLW24 (by decide +kernel) qo21
theorem dL_law_1540 : decode cL_law 1540 = .ok (.iconst 4, 1) := qr0 (P := 1536) (o := 4) (op := 7) qLW24 (by decide +kernel) qo7
theorem dL_law_1541 : decode cL_law 1541 = .ok (.iadd, 1) := qr0 (P := 1536) (o := 5) (op := 96) qLW24 (by decide +kernel) qo96
theorem dL_law_1542 : decode cL_law 1542 = .ok (.iaload, 1) := qr0 (P := 1536) (o := 6) (op := 46) qLW24 (by decide +kernel) qo46
theorem dL_law_1543 : decode cL_law 1543 = .ok (.ifCond .eq 7, 3) := qr2 (P := 1536) (o := 7) (op := 153) (v := 7) qLW24 (by decide +kernel) (fun h h2 => qo153 h (qs2 h2 (by decide +kernel)))
theorem dL_law_1546 : decode cL_law 1546 = .ok (.iconst 1, 1) := qr0 (P := 1536) (o := 10) (op := 4) qLW24 (by decide +kernel) qo4
theorem dL_law_1547 : decode cL_law 1547 = .ok (.goto 4, 3) := qr2 (P := 1536) (o := 11) (op := 167) (v := 4) qLW24 (by decide +kernel) (fun h h2 => qo167 h (qs2 h2 (by decide +kernel)))
theorem dL_law_1550 : decode cL_law 1550 = .ok (.iconst 0, 1) := qr0 (P := 1536) (o := 14) (op := 3) qLW24 (by decide +kernel) qo3
theorem dL_law_1551 : decode cL_law 1551 = .ok (.aload_n 3, 1) := qr0 (P := 1536) (o := 15) (op := 45) qLW24 (by decide +kernel) qo45
theorem dL_law_1552 : decode cL_law 1552 = .ok (.invokestatic 259, 3) := qr2 (P := 1536) (o := 16) (op := 184) (v := 259) qLW24 (by decide +kernel) qo184
theorem dL_law_1555 : decode cL_law 1555 = .ok (.istore 6, 2) := qr1 (P := 1536) (o := 19) (op := 54) (v := 6) qLW24 (by decide +kernel) qo54
theorem dL_law_1557 : decode cL_law 1557 = .ok (.aload_n 2, 1) := qr0 (P := 1536) (o := 21) (op := 44) qLW24 (by decide +kernel) qo44
theorem dL_law_1558 : decode cL_law 1558 = .ok (.aload_n 0, 1) := qr0 (P := 1536) (o := 22) (op := 42) qLW24 (by decide +kernel) qo42
theorem dL_law_1559 : decode cL_law 1559 = .ok (.iload 5, 2) := qr1 (P := 1536) (o := 23) (op := 21) (v := 5) qLW24 (by decide +kernel) qo21
theorem dL_law_1561 : decode cL_law 1561 = .ok (.iconst 1, 1) := qr0 (P := 1536) (o := 25) (op := 4) qLW24 (by decide +kernel) qo4
theorem dL_law_1562 : decode cL_law 1562 = .ok (.iadd, 1) := qr0 (P := 1536) (o := 26) (op := 96) qLW24 (by decide +kernel) qo96
theorem dL_law_1563 : decode cL_law 1563 = .ok (.iaload, 1) := qr0 (P := 1536) (o := 27) (op := 46) qLW24 (by decide +kernel) qo46
theorem dL_law_1564 : decode cL_law 1564 = .ok (.aload_n 0, 1) := qr0 (P := 1536) (o := 28) (op := 42) qLW24 (by decide +kernel) qo42
theorem dL_law_1565 : decode cL_law 1565 = .ok (.iload 5, 2) := qr1 (P := 1536) (o := 29) (op := 21) (v := 5) qLW24 (by decide +kernel) qo21
theorem dL_law_1567 : decode cL_law 1567 = .ok (.iconst 2, 1) := qr0 (P := 1536) (o := 31) (op := 5) qLW24 (by decide +kernel) qo5
theorem dL_law_1568 : decode cL_law 1568 = .ok (.iadd, 1) := qr0 (P := 1536) (o := 32) (op := 96) qLW24 (by decide +kernel) qo96
theorem dL_law_1569 : decode cL_law 1569 = .ok (.iaload, 1) := qr0 (P := 1536) (o := 33) (op := 46) qLW24 (by decide +kernel) qo46
theorem dL_law_1570 : decode cL_law 1570 = .ok (.aload_n 0, 1) := qr0 (P := 1536) (o := 34) (op := 42) qLW24 (by decide +kernel) qo42
theorem dL_law_1571 : decode cL_law 1571 = .ok (.iload 5, 2) := qr1 (P := 1536) (o := 35) (op := 21) (v := 5) qLW24 (by decide +kernel) qo21
theorem dL_law_1573 : decode cL_law 1573 = .ok (.iconst 3, 1) := qr0 (P := 1536) (o := 37) (op := 6) qLW24 (by decide +kernel) qo6
theorem dL_law_1574 : decode cL_law 1574 = .ok (.iadd, 1) := qr0 (P := 1536) (o := 38) (op := 96) qLW24 (by decide +kernel) qo96
theorem dL_law_1575 : decode cL_law 1575 = .ok (.iaload, 1) := qr0 (P := 1536) (o := 39) (op := 46) qLW24 (by decide +kernel) qo46
theorem dL_law_1576 : decode cL_law 1576 = .ok (.aload_n 0, 1) := qr0 (P := 1536) (o := 40) (op := 42) qLW24 (by decide +kernel) qo42
theorem dL_law_1577 : decode cL_law 1577 = .ok (.iload 5, 2) := qr1 (P := 1536) (o := 41) (op := 21) (v := 5) qLW24 (by decide +kernel) qo21
theorem dL_law_1579 : decode cL_law 1579 = .ok (.iconst 4, 1) := qr0 (P := 1536) (o := 43) (op := 7) qLW24 (by decide +kernel) qo7
theorem dL_law_1580 : decode cL_law 1580 = .ok (.iadd, 1) := qr0 (P := 1536) (o := 44) (op := 96) qLW24 (by decide +kernel) qo96
theorem dL_law_1581 : decode cL_law 1581 = .ok (.iaload, 1) := qr0 (P := 1536) (o := 45) (op := 46) qLW24 (by decide +kernel) qo46
theorem dL_law_1582 : decode cL_law 1582 = .ok (.ifCond .eq 7, 3) := qr2 (P := 1536) (o := 46) (op := 153) (v := 7) qLW24 (by decide +kernel) (fun h h2 => qo153 h (qs2 h2 (by decide +kernel)))
theorem dL_law_1585 : decode cL_law 1585 = .ok (.iconst 1, 1) := qr0 (P := 1536) (o := 49) (op := 4) qLW24 (by decide +kernel) qo4
theorem dL_law_1586 : decode cL_law 1586 = .ok (.goto 4, 3) := qr2 (P := 1536) (o := 50) (op := 167) (v := 4) qLW24 (by decide +kernel) (fun h h2 => qo167 h (qs2 h2 (by decide +kernel)))
theorem dL_law_1589 : decode cL_law 1589 = .ok (.iconst 0, 1) := qr0 (P := 1536) (o := 53) (op := 3) qLW24 (by decide +kernel) qo3
theorem dL_law_1590 : decode cL_law 1590 = .ok (.invokevirtual 261, 3) := qr2 (P := 1536) (o := 54) (op := 182) (v := 261) qLW24 (by decide +kernel) qo182
theorem dL_law_1593 : decode cL_law 1593 = .ok (.istore 7, 2) := qr1 (P := 1536) (o := 57) (op := 54) (v := 7) qLW24 (by decide +kernel) qo54
theorem dL_law_1595 : decode cL_law 1595 = .ok (.goto 318, 3) := qr2 (P := 1536) (o := 59) (op := 167) (v := 318) qLW24 (by decide +kernel) (fun h h2 => qo167 h (qs2 h2 (by decide +kernel)))
theorem dL_law_1598 : decode cL_law 1598 = .ok (.aload_n 1, 1) := qr0 (P := 1536) (o := 62) (op := 43) qLW24 (by decide +kernel) qo43
theorem dL_law_1599 : decode cL_law 1599 = .ok (.aload_n 0, 1) := qr0 (P := 1536) (o := 63) (op := 42) qLW24 (by decide +kernel) qo42
theorem dL_law_1600 : decode cL_law 1600 = .ok (.iload 5, 2) := qr1 (P := 1600) (o := 0) (op := 21) (v := 5) qLW25 (by decide +kernel) qo21
theorem dL_law_1602 : decode cL_law 1602 = .ok (.iconst 1, 1) := qr0 (P := 1600) (o := 2) (op := 4) qLW25 (by decide +kernel) qo4
theorem dL_law_1603 : decode cL_law 1603 = .ok (.iadd, 1) := qr0 (P := 1600) (o := 3) (op := 96) qLW25 (by decide +kernel) qo96
theorem dL_law_1604 : decode cL_law 1604 = .ok (.iaload, 1) := qr0 (P := 1600) (o := 4) (op := 46) qLW25 (by decide +kernel) qo46
theorem dL_law_1605 : decode cL_law 1605 = .ok (.aload_n 0, 1) := qr0 (P := 1600) (o := 5) (op := 42) qLW25 (by decide +kernel) qo42
theorem dL_law_1606 : decode cL_law 1606 = .ok (.iload 5, 2) := qr1 (P := 1600) (o := 6) (op := 21) (v := 5) qLW25 (by decide +kernel) qo21
theorem dL_law_1608 : decode cL_law 1608 = .ok (.iconst 2, 1) := qr0 (P := 1600) (o := 8) (op := 5) qLW25 (by decide +kernel) qo5
theorem dL_law_1609 : decode cL_law 1609 = .ok (.iadd, 1) := qr0 (P := 1600) (o := 9) (op := 96) qLW25 (by decide +kernel) qo96
theorem dL_law_1610 : decode cL_law 1610 = .ok (.iaload, 1) := qr0 (P := 1600) (o := 10) (op := 46) qLW25 (by decide +kernel) qo46
theorem dL_law_1611 : decode cL_law 1611 = .ok (.aload_n 0, 1) := qr0 (P := 1600) (o := 11) (op := 42) qLW25 (by decide +kernel) qo42
theorem dL_law_1612 : decode cL_law 1612 = .ok (.iload 5, 2) := qr1 (P := 1600) (o := 12) (op := 21) (v := 5) qLW25 (by decide +kernel) qo21
theorem dL_law_1614 : decode cL_law 1614 = .ok (.iconst 3, 1) := qr0 (P := 1600) (o := 14) (op := 6) qLW25 (by decide +kernel) qo6
theorem dL_law_1615 : decode cL_law 1615 = .ok (.iadd, 1) := qr0 (P := 1600) (o := 15) (op := 96) qLW25 (by decide +kernel) qo96
theorem dL_law_1616 : decode cL_law 1616 = .ok (.iaload, 1) := qr0 (P := 1600) (o := 16) (op := 46) qLW25 (by decide +kernel) qo46
theorem dL_law_1617 : decode cL_law 1617 = .ok (.aload_n 0, 1) := qr0 (P := 1600) (o := 17) (op := 42) qLW25 (by decide +kernel) qo42
theorem dL_law_1618 : decode cL_law 1618 = .ok (.iload 5, 2) := qr1 (P := 1600) (o := 18) (op := 21) (v := 5) qLW25 (by decide +kernel) qo21
theorem dL_law_1620 : decode cL_law 1620 = .ok (.iconst 4, 1) := qr0 (P := 1600) (o := 20) (op := 7) qLW25 (by decide +kernel) qo7
theorem dL_law_1621 : decode cL_law 1621 = .ok (.iadd, 1) := qr0 (P := 1600) (o := 21) (op := 96) qLW25 (by decide +kernel) qo96
theorem dL_law_1622 : decode cL_law 1622 = .ok (.iaload, 1) := qr0 (P := 1600) (o := 22) (op := 46) qLW25 (by decide +kernel) qo46
theorem dL_law_1623 : decode cL_law 1623 = .ok (.aload_n 3, 1) := qr0 (P := 1600) (o := 23) (op := 45) qLW25 (by decide +kernel) qo45
theorem dL_law_1624 : decode cL_law 1624 = .ok (.invokestatic 262, 3) := qr2 (P := 1600) (o := 24) (op := 184) (v := 262) qLW25 (by decide +kernel) qo184
theorem dL_law_1627 : decode cL_law 1627 = .ok (.istore 6, 2) := qr1 (P := 1600) (o := 27) (op := 54) (v := 6) qLW25 (by decide +kernel) qo54
theorem dL_law_1629 : decode cL_law 1629 = .ok (.aload_n 2, 1) := qr0 (P := 1600) (o := 29) (op := 44) qLW25 (by decide +kernel) qo44
theorem dL_law_1630 : decode cL_law 1630 = .ok (.aload_n 0, 1) := qr0 (P := 1600) (o := 30) (op := 42) qLW25 (by decide +kernel) qo42
theorem dL_law_1631 : decode cL_law 1631 = .ok (.iload 5, 2) := qr1 (P := 1600) (o := 31) (op := 21) (v := 5) qLW25 (by decide +kernel) qo21
theorem dL_law_1633 : decode cL_law 1633 = .ok (.iconst 1, 1) := qr0 (P := 1600) (o := 33) (op := 4) qLW25 (by decide +kernel) qo4
theorem dL_law_1634 : decode cL_law 1634 = .ok (.iadd, 1) := qr0 (P := 1600) (o := 34) (op := 96) qLW25 (by decide +kernel) qo96
theorem dL_law_1635 : decode cL_law 1635 = .ok (.iaload, 1) := qr0 (P := 1600) (o := 35) (op := 46) qLW25 (by decide +kernel) qo46

theorem dL_law_1636 : decode cL_law 1636 = .ok (.aload_n 0, 1) := qr0 (P := 1600) (o := 36) (op := 42) qLW25 (by decide +kernel) qo42
theorem dL_law_1637 : decode cL_law 1637 = .ok (.iload 5, 2) := qr1 (P := 1600) (o := 37) (op := 21) (v := 5) qLW25 (by decide +kernel) qo21
theorem dL_law_1639 : decode cL_law 1639 = .ok (.iconst 2, 1) := qr0 (P := 1600) (o := 39) (op := 5) qLW25 (by decide +kernel) qo5
theorem dL_law_1640 : decode cL_law 1640 = .ok (.iadd, 1) := qr0 (P := 1600) (o := 40) (op := 96) qLW25 (by decide +kernel) qo96
theorem dL_law_1641 : decode cL_law 1641 = .ok (.iaload, 1) := qr0 (P := 1600) (o := 41) (op := 46) qLW25 (by decide +kernel) qo46
theorem dL_law_1642 : decode cL_law 1642 = .ok (.aload_n 0, 1) := qr0 (P := 1600) (o := 42) (op := 42) qLW25 (by decide +kernel) qo42
theorem dL_law_1643 : decode cL_law 1643 = .ok (.iload 5, 2) := qr1 (P := 1600) (o := 43) (op := 21) (v := 5) qLW25 (by decide +kernel) qo21
theorem dL_law_1645 : decode cL_law 1645 = .ok (.iconst 3, 1) := qr0 (P := 1600) (o := 45) (op := 6) qLW25 (by decide +kernel) qo6
theorem dL_law_1646 : decode cL_law 1646 = .ok (.iadd, 1) := qr0 (P := 1600) (o := 46) (op := 96) qLW25 (by decide +kernel) qo96
theorem dL_law_1647 : decode cL_law 1647 = .ok (.iaload, 1) := qr0 (P := 1600) (o := 47) (op := 46) qLW25 (by decide +kernel) qo46
theorem dL_law_1648 : decode cL_law 1648 = .ok (.aload_n 0, 1) := qr0 (P := 1600) (o := 48) (op := 42) qLW25 (by decide +kernel) qo42
theorem dL_law_1649 : decode cL_law 1649 = .ok (.iload 5, 2) := qr1 (P := 1600) (o := 49) (op := 21) (v := 5) qLW25 (by decide +kernel) qo21
theorem dL_law_1651 : decode cL_law 1651 = .ok (.iconst 4, 1) := qr0 (P := 1600) (o := 51) (op := 7) qLW25 (by decide +kernel) qo7
theorem dL_law_1652 : decode cL_law 1652 = .ok (.iadd, 1) := qr0 (P := 1600) (o := 52) (op := 96) qLW25 (by decide +kernel) qo96
theorem dL_law_1653 : decode cL_law 1653 = .ok (.iaload, 1) := qr0 (P := 1600) (o := 53) (op := 46) qLW25 (by decide +kernel) qo46
theorem dL_law_1654 : decode cL_law 1654 = .ok (.invokevirtual 265, 3) := qr2 (P := 1600) (o := 54) (op := 182) (v := 265) qLW25 (by decide +kernel) qo182
theorem dL_law_1657 : decode cL_law 1657 = .ok (.istore 7, 2) := qr1 (P := 1600) (o := 57) (op := 54) (v := 7) qLW25 (by decide +kernel) qo54
theorem dL_law_1659 : decode cL_law 1659 = .ok (.goto 254, 3) := qr2 (P := 1600) (o := 59) (op := 167) (v := 254) qLW25 (by decide +kernel) (fun h h2 => qo167 h (qs2 h2 (by decide +kernel)))
theorem dL_law_1662 : decode cL_law 1662 = .ok (.aload_n 1, 1) := qr0 (P := 1600) (o := 62) (op := 43) qLW25 (by decide +kernel) qo43
theorem dL_law_1663 : decode cL_law 1663 = .ok (.aload_n 0, 1) := qr0 (P := 1600) (o := 63) (op := 42) qLW25 (by decide +kernel) qo42
theorem dL_law_1664 : decode cL_law 1664 = .ok (.iload 5, 2) := qr1 (P := 1664) (o := 0) (op := 21) (v := 5) qLW26 (by decide +kernel) qo21
theorem dL_law_1666 : decode cL_law 1666 = .ok (.iconst 1, 1) := qr0 (P := 1664) (o := 2) (op := 4) qLW26 (by decide +kernel) qo4
theorem dL_law_1667 : decode cL_law 1667 = .ok (.iadd, 1) := qr0 (P := 1664) (o := 3) (op := 96) qLW26 (by decide +kernel) qo96
theorem dL_law_1668 : decode cL_law 1668 = .ok (.iaload, 1) := qr0 (P := 1664) (o := 4) (op := 46) qLW26 (by decide +kernel) qo46
theorem dL_law_1669 : decode cL_law 1669 = .ok (.aload_n 3, 1) := qr0 (P := 1664) (o := 5) (op := 45) qLW26 (by decide +kernel) qo45
theorem dL_law_1670 : decode cL_law 1670 = .ok (.invokestatic 266, 3) := qr2 (P := 1664) (o := 6) (op := 184) (v := 266) qLW26 (by decide +kernel) qo184
theorem dL_law_1673 : decode cL_law 1673 = .ok (.istore 6, 2) := qr1 (P := 1664) (o := 9) (op := 54) (v := 6) qLW26 (by decide +kernel) qo54
theorem dL_law_1675 : decode cL_law 1675 = .ok (.aload_n 2, 1) := qr0 (P := 1664) (o := 11) (op := 44) qLW26 (by decide +kernel) qo44
theorem dL_law_1676 : decode cL_law 1676 = .ok (.aload_n 0, 1) := qr0 (P := 1664) (o := 12) (op := 42) qLW26 (by decide +kernel) qo42
theorem dL_law_1677 : decode cL_law 1677 = .ok (.iload 5, 2) := qr1 (P := 1664) (o := 13) (op := 21) (v := 5) qLW26 (by decide +kernel) qo21
theorem dL_law_1679 : decode cL_law 1679 = .ok (.iconst 1, 1) := qr0 (P := 1664) (o := 15) (op := 4) qLW26 (by decide +kernel) qo4
theorem dL_law_1680 : decode cL_law 1680 = .ok (.iadd, 1) := qr0 (P := 1664) (o := 16) (op := 96) qLW26 (by decide +kernel) qo96
theorem dL_law_1681 : decode cL_law 1681 = .ok (.iaload, 1) := qr0 (P := 1664) (o := 17) (op := 46) qLW26 (by decide +kernel) qo46
theorem dL_law_1682 : decode cL_law 1682 = .ok (.invokevirtual 268, 3) := qr2 (P := 1664) (o := 18) (op := 182) (v := 268) qLW26 (by decide +kernel) qo182
theorem dL_law_1685 : decode cL_law 1685 = .ok (.istore 7, 2) := qr1 (P := 1664) (o := 21) (op := 54) (v := 7) qLW26 (by decide +kernel) qo54
theorem dL_law_1687 : decode cL_law 1687 = .ok (.goto 226, 3) := qr2 (P := 1664) (o := 23) (op := 167) (v := 226) qLW26 (by decide +kernel) (fun h h2 => qo167 h (qs2 h2 (by decide +kernel)))
theorem dL_law_1690 : decode cL_law 1690 = .ok (.aload_n 1, 1) := qr0 (P := 1664) (o := 26) (op := 43) qLW26 (by decide +kernel) qo43
theorem dL_law_1691 : decode cL_law 1691 = .ok (.aload_n 0, 1) := qr0 (P := 1664) (o := 27) (op := 42) qLW26 (by decide +kernel) qo42
theorem dL_law_1692 : decode cL_law 1692 = .ok (.iload 5, 2) := qr1 (P := 1664) (o := 28) (op := 21) (v := 5) qLW26 (by decide +kernel) qo21
theorem dL_law_1694 : decode cL_law 1694 = .ok (.iconst 1, 1) := qr0 (P := 1664) (o := 30) (op := 4) qLW26 (by decide +kernel) qo4
theorem dL_law_1695 : decode cL_law 1695 = .ok (.iadd, 1) := qr0 (P := 1664) (o := 31) (op := 96) qLW26 (by decide +kernel) qo96
theorem dL_law_1696 : decode cL_law 1696 = .ok (.iaload, 1) := qr0 (P := 1664) (o := 32) (op := 46) qLW26 (by decide +kernel) qo46
theorem dL_law_1697 : decode cL_law 1697 = .ok (.aload 4, 2) := qr1 (P := 1664) (o := 33) (op := 25) (v := 4) qLW26 (by decide +kernel) qo25
theorem dL_law_1699 : decode cL_law 1699 = .ok (.invokestatic 269, 3) := qr2 (P := 1664) (o := 35) (op := 184) (v := 269) qLW26 (by decide +kernel) qo184
theorem dL_law_1702 : decode cL_law 1702 = .ok (.istore 6, 2) := qr1 (P := 1664) (o := 38) (op := 54) (v := 6) qLW26 (by decide +kernel) qo54
theorem dL_law_1704 : decode cL_law 1704 = .ok (.aload_n 2, 1) := qr0 (P := 1664) (o := 40) (op := 44) qLW26 (by decide +kernel) qo44
theorem dL_law_1705 : decode cL_law 1705 = .ok (.aload_n 0, 1) := qr0 (P := 1664) (o := 41) (op := 42) qLW26 (by decide +kernel) qo42
theorem dL_law_1706 : decode cL_law 1706 = .ok (.iload 5, 2) := qr1 (P := 1664) (o := 42) (op := 21) (v := 5) qLW26 (by decide +kernel) qo21
theorem dL_law_1708 : decode cL_law 1708 = .ok (.iconst 1, 1) := qr0 (P := 1664) (o := 44) (op := 4) qLW26 (by decide +kernel) qo4
theorem dL_law_1709 : decode cL_law 1709 = .ok (.iadd, 1) := qr0 (P := 1664) (o := 45) (op := 96) qLW26 (by decide +kernel) qo96
theorem dL_law_1710 : decode cL_law 1710 = .ok (.iaload, 1) := qr0 (P := 1664) (o := 46) (op := 46) qLW26 (by decide +kernel) qo46
theorem dL_law_1711 : decode cL_law 1711 = .ok (.invokevirtual 272, 3) := qr2 (P := 1664) (o := 47) (op := 182) (v := 272) qLW26 (by decide +kernel) qo182
theorem dL_law_1714 : decode cL_law 1714 = .ok (.dstore 7, 2) := qr1 (P := 1664) (o := 50) (op := 57) (v := 7) qLW26 (by decide +kernel) qo57
theorem dL_law_1716 : decode cL_law 1716 = .ok (.goto 197, 3) := qr2 (P := 1664) (o := 52) (op := 167) (v := 197) qLW26 (by decide +kernel) (fun h h2 => qo167 h (qs2 h2 (by decide +kernel)))
theorem dL_law_1719 : decode cL_law 1719 = .ok (.aload_n 1, 1) := qr0 (P := 1664) (o := 55) (op := 43) qLW26 (by decide +kernel) qo43
theorem dL_law_1720 : decode cL_law 1720 = .ok (.aload_n 0, 1) := qr0 (P := 1664) (o := 56) (op := 42) qLW26 (by decide +kernel) qo42
theorem dL_law_1721 : decode cL_law 1721 = .ok (.iload 5, 2) := qr1 (P := 1664) (o := 57) (op := 21) (v := 5) qLW26 (by decide +kernel) qo21
theorem dL_law_1723 : decode cL_law 1723 = .ok (.iconst 1, 1) := qr0 (P := 1664) (o := 59) (op := 4) qLW26 (by decide +kernel) qo4
theorem dL_law_1724 : decode cL_law 1724 = .ok (.iadd, 1) := qr0 (P := 1664) (o := 60) (op := 96) qLW26 (by decide +kernel) qo96
theorem dL_law_1725 : decode cL_law 1725 = .ok (.iaload, 1) := qr0 (P := 1664) (o := 61) (op := 46) qLW26 (by decide +kernel) qo46
theorem dL_law_1726 : decode cL_law 1726 = .ok (.aload 4, 2) := qr1 (P := 1664) (o := 62) (op := 25) (v := 4) qLW26 (by decide +kernel) qo25
theorem dL_law_1728 : decode cL_law 1728 = .ok (.invokestatic 273, 3) := qr2 (P := 1728) (o := 0) (op := 184) (v := 273) qLW27 (by decide +kernel) qo184
theorem dL_law_1731 : decode cL_law 1731 = .ok (.istore 6, 2) := qr1 (P := 1728) (o := 3) (op := 54) (v := 6) qLW27 (by decide +kernel) qo54
theorem dL_law_1733 : decode cL_law 1733 = .ok (.aload_n 2, 1) := qr0 (P := 1728) (o := 5) (op := 44) qLW27 (by decide +kernel) qo44
theorem dL_law_1734 : decode cL_law 1734 = .ok (.aload_n 0, 1) := qr0 (P := 1728) (o := 6) (op := 42) qLW27 (by decide +kernel) qo42
theorem dL_law_1735 : decode cL_law 1735 = .ok (.iload 5, 2) := qr1 (P := 1728) (o := 7) (op := 21) (v := 5) qLW27 (by decide +kernel) qo21
theorem dL_law_1737 : decode cL_law 1737 = .ok (.iconst 1, 1) := qr0 (P := 1728) (o := 9) (op := 4) qLW27 (by decide +kernel) qo4
theorem dL_law_1738 : decode cL_law 1738 = .ok (.iadd, 1) := qr0 (P := 1728) (o := 10) (op := 96) qLW27 (by decide +kernel) qo96
theorem dL_law_1739 : decode cL_law 1739 = .ok (.iaload, 1) := qr0 (P := 1728) (o := 11) (op := 46) qLW27 (by decide +kernel) qo46
theorem dL_law_1740 : decode cL_law 1740 = .ok (.invokevirtual 275, 3) := qr2 (P := 1728) (o := 12) (op := 182) (v := 275) qLW27 (by decide +kernel) qo182
theorem dL_law_1743 : decode cL_law 1743 = .ok (.dstore 7, 2) := qr1 (P := 1728) (o := 15) (op := 57) (v := 7) qLW27 (by decide +kernel) qo57
theorem dL_law_1745 : decode cL_law 1745 = .ok (.goto 168, 3) := qr2 (P := 1728) (o := 17) (op := 167) (v := 168) qLW27 (by decide +kernel) (fun h h2 => qo167 h (qs2 h2 (by decide +kernel)))
theorem dL_law_1748 : decode cL_law 1748 = .ok (.aload_n 1, 1) := qr0 (P := 1728) (o := 20) (op := 43) qLW27 (by decide +kernel) qo43
theorem dL_law_1749 : decode cL_law 1749 = .ok (.aload_n 0, 1) := qr0 (P := 1728) (o := 21) (op := 42) qLW27 (by decide +kernel) qo42
theorem dL_law_1750 : decode cL_law 1750 = .ok (.iload 5, 2) := qr1 (P := 1728) (o := 22) (op := 21) (v := 5) qLW27 (by decide +kernel) qo21
theorem dL_law_1752 : decode cL_law 1752 = .ok (.iconst 1, 1) := qr0 (P := 1728) (o := 24) (op := 4) qLW27 (by decide +kernel) qo4
theorem dL_law_1753 : decode cL_law 1753 = .ok (.iadd, 1) := qr0 (P := 1728) (o := 25) (op := 96) qLW27 (by decide +kernel) qo96
theorem dL_law_1754 : decode cL_law 1754 = .ok (.iaload, 1) := qr0 (P := 1728) (o := 26) (op := 46) qLW27 (by decide +kernel) qo46
theorem dL_law_1755 : decode cL_law 1755 = .ok (.aload_n 0, 1) := qr0 (P := 1728) (o := 27) (op := 42) qLW27 (by decide +kernel) qo42
theorem dL_law_1756 : decode cL_law 1756 = .ok (.iload 5, 2) := qr1 (P := 1728) (o := 28) (op := 21) (v := 5) qLW27 (by decide +kernel) qo21
theorem dL_law_1758 : decode cL_law 1758 = .ok (.iconst 2, 1) := qr0 (P := 1728) (o := 30) (op := 5) qLW27 (by decide +kernel) qo5
theorem dL_law_1759 : decode cL_law 1759 = .ok (.iadd, 1) := qr0 (P := 1728) (o := 31) (op := 96) qLW27 (by decide +kernel) qo96
theorem dL_law_1760 : decode cL_law 1760 = .ok (.iaload, 1) := qr0 (P := 1728) (o := 32) (op := 46) qLW27 (by decide +kernel) qo46
theorem dL_law_1761 : decode cL_law 1761 = .ok (.aload_n 0, 1) := qr0 (P := 1728) (o := 33) (op := 42) qLW27 (by decide +kernel) qo42
theorem dL_law_1762 : decode cL_law 1762 = .ok (.iload 5, 2) := qr1 (P := 1728) (o := 34) (op := 21) (v := 5) qLW27 (by decide +kernel) qo21
theorem dL_law_1764 : decode cL_law 1764 = .ok (.iconst 3, 1) := qr0 (P := 1728) (o := 36) (op := 6) qLW27 (by decide +kernel) qo6
theorem dL_law_1765 : decode cL_law 1765 = .ok (.iadd, 1) := qr0 (P := 1728) (o := 37) (op := 96) qLW27 (by decide +kernel) qo96
theorem dL_law_1766 : decode cL_law 1766 = .ok (.iaload, 1) := qr0 (P := 1728) (o := 38) (op := 46) qLW27 (by decide +kernel) qo46
theorem dL_law_1767 : decode cL_law 1767 = .ok (.aload_n 3, 1) := qr0 (P := 1728) (o := 39) (op := 45) qLW27 (by decide +kernel) qo45
theorem dL_law_1768 : decode cL_law 1768 = .ok (.invokestatic 276, 3) := qr2 (P := 1728) (o := 40) (op := 184) (v := 276) qLW27 (by decide +kernel) qo184
theorem dL_law_1771 : decode cL_law 1771 = .ok (.istore 6, 2) := qr1 (P := 1728) (o := 43) (op := 54) (v := 6) qLW27 (by decide +kernel) qo54
theorem dL_law_1773 : decode cL_law 1773 = .ok (.aload_n 2, 1) := qr0 (P := 1728) (o := 45) (op := 44) qLW27 (by decide +kernel) qo44
theorem dL_law_1774 : decode cL_law 1774 = .ok (.aload_n 0, 1) := qr0 (P := 1728) (o := 46) (op := 42) qLW27 (by decide +kernel) qo42
theorem dL_law_1775 : decode cL_law 1775 = .ok (.iload 5, 2) := qr1 (P := 1728) (o := 47) (op := 21) (v := 5) qLW27 (by decide +kernel) qo21
theorem dL_law_1777 : decode cL_law 1777 = .ok (.iconst 1, 1) := qr0 (P := 1728) (o := 49) (op := 4) qLW27 (by decide +kernel) qo4
theorem dL_law_1778 : decode cL_law 1778 = .ok (.iadd, 1) := qr0 (P := 1728) (o := 50) (op := 96) qLW27 (by decide +kernel) qo96
theorem dL_law_1779 : decode cL_law 1779 = .ok (.iaload, 1) := qr0 (P := 1728) (o := 51) (op := 46) qLW27 (by decide +kernel) qo46
theorem dL_law_1780 : decode cL_law 1780 = .ok (.aload_n 0, 1) := qr0 (P := 1728) (o := 52) (op := 42) qLW27 (by decide +kernel) qo42
theorem dL_law_1781 : decode cL_law 1781 = .ok (.iload 5, 2) := qr1 (P := 1728) (o := 53) (op := 21) (v := 5) qLW27 (by decide +kernel) qo21
theorem dL_law_1783 : decode cL_law 1783 = .ok (.iconst 2, 1) := qr0 (P := 1728) (o := 55) (op := 5) qLW27 (by decide +kernel) qo5
theorem dL_law_1784 : decode cL_law 1784 = .ok (.iadd, 1) := qr0 (P := 1728) (o := 56) (op := 96) qLW27 (by decide +kernel) qo96
theorem dL_law_1785 : decode cL_law 1785 = .ok (.iaload, 1) := qr0 (P := 1728) (o := 57) (op := 46) qLW27 (by decide +kernel) qo46
theorem dL_law_1786 : decode cL_law 1786 = .ok (.aload_n 0, 1) := qr0 (P := 1728) (o := 58) (op := 42) qLW27 (by decide +kernel) qo42
theorem dL_law_1787 : decode cL_law 1787 = .ok (.iload 5, 2) := qr1 (P := 1728) (o := 59) (op := 21) (v := 5) qLW27 (by decide +kernel) qo21
theorem dL_law_1789 : decode cL_law 1789 = .ok (.iconst 3, 1) := qr0 (P := 1728) (o := 61) (op := 6) qLW27 (by decide +kernel) qo6
theorem dL_law_1790 : decode cL_law 1790 = .ok (.iadd, 1) := qr0 (P := 1728) (o := 62) (op := 96) qLW27 (by decide +kernel) qo96
theorem dL_law_1791 : decode cL_law 1791 = .ok (.iaload, 1) := qr0 (P := 1728) (o := 63) (op := 46) qLW27 (by decide +kernel) qo46
theorem dL_law_1792 : decode cL_law 1792 = .ok (.invokevirtual 278, 3) := qr2 (P := 1792) (o := 0) (op := 182) (v := 278) qLW28 (by decide +kernel) qo182
theorem dL_law_1795 : decode cL_law 1795 = .ok (.istore 7, 2) := qr1 (P := 1792) (o := 3) (op := 54) (v := 7) qLW28 (by decide +kernel) qo54
theorem dL_law_1797 : decode cL_law 1797 = .ok (.goto 116, 3) := qr2 (P := 1792) (o := 5) (op := 167) (v := 116) qLW28 (by decide +kernel) (fun h h2 => qo167 h (qs2 h2 (by decide +kernel)))
theorem dL_law_1800 : decode cL_law 1800 = .ok (.aload_n 1, 1) := qr0 (P := 1792) (o := 8) (op := 43) qLW28 (by decide +kernel) qo43
theorem dL_law_1801 : decode cL_law 1801 = .ok (.invokevirtual 279, 3) := qr2 (P := 1792) (o := 9) (op := 182) (v := 279) qLW28 (by decide +kernel) qo182
theorem dL_law_1804 : decode cL_law 1804 = .ok (.pop, 1) := qr0 (P := 1792) (o := 12) (op := 87) qLW28 (by decide +kernel) qo87
theorem dL_law_1805 : decode cL_law 1805 = .ok (.aload_n 2, 1) := qr0 (P := 1792) (o := 13) (op := 44) qLW28 (by decide +kernel) qo44
theorem dL_law_1806 : decode cL_law 1806 = .ok (.invokevirtual 282, 3) := qr2 (P := 1792) (o := 14) (op := 182) (v := 282) qLW28 (by decide +kernel) qo182
theorem dL_law_1809 : decode cL_law 1809 = .ok (.pop, 1) := qr0 (P := 1792) (o := 17) (op := 87) qLW28 (by decide +kernel) qo87
theorem dL_law_1810 : decode cL_law 1810 = .ok (.goto 103, 3) := qr2 (P := 1792) (o := 18) (op := 167) (v := 103) qLW28 (by decide +kernel) (fun h h2 => qo167 h (qs2 h2 (by decide +kernel)))
theorem dL_law_1813 : decode cL_law 1813 = .ok (.aload_n 1, 1) := qr0 (P := 1792) (o := 21) (op := 43) qLW28 (by decide +kernel) qo43
theorem dL_law_1814 : decode cL_law 1814 = .ok (.aload_n 0, 1) := qr0 (P := 1792) (o := 22) (op := 42) qLW28 (by decide +kernel) qo42
theorem dL_law_1815 : decode cL_law 1815 = .ok (.iload 5, 2) := qr1 (P := 1792) (o := 23) (op := 21) (v := 5) qLW28 (by decide +kernel) qo21
theorem dL_law_1817 : decode cL_law 1817 = .ok (.iconst 1, 1) := qr0 (P := 1792) (o := 25) (op := 4) qLW28 (by decide +kernel) qo4
theorem dL_law_1818 : decode cL_law 1818 = .ok (.iadd, 1) := qr0 (P := 1792) (o := 26) (op := 96) qLW28 (by decide +kernel) qo96
theorem dL_law_1819 : decode cL_law 1819 = .ok (.iaload, 1) := qr0 (P := 1792) (o := 27) (op := 46) qLW28 (by decide +kernel) qo46
theorem dL_law_1820 : decode cL_law 1820 = .ok (.aload_n 3, 1) := qr0 (P := 1792) (o := 28) (op := 45) qLW28 (by decide +kernel) qo45
theorem dL_law_1821 : decode cL_law 1821 = .ok (.invokestatic 283, 3) := qr2 (P := 1792) (o := 29) (op := 184) (v := 283) qLW28 (by decide +kernel) qo184
theorem dL_law_1824 : decode cL_law 1824 = .ok (.istore 6, 2) := qr1 (P := 1792) (o := 32) (op := 54) (v := 6) qLW28 (by decide +kernel) qo54
theorem dL_law_1826 : decode cL_law 1826 = .ok (.aload_n 2, 1) := qr0 (P := 1792) (o := 34) (op := 44) qLW28 (by decide +kernel) qo44
theorem dL_law_1827 : decode cL_law 1827 = .ok (.aload_n 0, 1) := qr0 (P := 1792) (o := 35) (op := 42) qLW28 (by decide +kernel) qo42
theorem dL_law_1828 : decode cL_law 1828 = .ok (.iload 5, 2) := qr1 (P := 1792) (o := 36) (op := 21) (v := 5) qLW28 (by decide +kernel) qo21
theorem dL_law_1830 : decode cL_law 1830 = .ok (.iconst 1, 1) := qr0 (P := 1792) (o := 38) (op := 4) qLW28 (by decide +kernel) qo4
theorem dL_law_1831 : decode cL_law 1831 = .ok (.iadd, 1) := qr0 (P := 1792) (o := 39) (op := 96) qLW28 (by decide +kernel) qo96
theorem dL_law_1832 : decode cL_law 1832 = .ok (.iaload, 1) := qr0 (P := 1792) (o := 40) (op := 46) qLW28 (by decide +kernel) qo46
theorem dL_law_1833 : decode cL_law 1833 = .ok (.invokevirtual 285, 3) := qr2 (P := 1792) (o := 41) (op := 182) (v := 285) qLW28 (by decide +kernel) qo182
theorem dL_law_1836 : decode cL_law 1836 = .ok (.istore 7, 2) := qr1 (P := 1792) (o := 44) (op := 54) (v := 7) qLW28 (by decide +kernel) qo54
theorem dL_law_1838 : decode cL_law 1838 = .ok (.goto 75, 3) := qr2 (P := 1792) (o := 46) (op := 167) (v := 75) qLW28 (by decide +kernel) (fun h h2 => qo167 h (qs2 h2 (by decide +kernel)))
theorem dL_law_1841 : decode cL_law 1841 = .ok (.aload_n 1, 1) := qr0 (P := 1792) (o := 49) (op := 43) qLW28 (by decide +kernel) qo43
theorem dL_law_1842 : decode cL_law 1842 = .ok (.aload 4, 2) := qr1 (P := 1792) (o := 50) (op := 25) (v := 4) qLW28 (by decide +kernel) qo25
theorem dL_law_1844 : decode cL_law 1844 = .ok (.invokestatic 286, 3) := qr2 (P := 1792) (o := 52) (op := 184) (v := 286) qLW28 (by decide +kernel) qo184
theorem dL_law_1847 : decode cL_law 1847 = .ok (.istore 6, 2) := qr1 (P := 1792) (o := 55) (op := 54) (v := 6) qLW28 (by decide +kernel) qo54
theorem dL_law_1849 : decode cL_law 1849 = .ok (.aload_n 2, 1) := qr0 (P := 1792) (o := 57) (op := 44) qLW28 (by decide +kernel) qo44
theorem dL_law_1850 : decode cL_law 1850 = .ok (.invokevirtual 289, 3) := qr2 (P := 1792) (o := 58) (op := 182) (v := 289) qLW28 (by decide +kernel) qo182
theorem dL_law_1853 : decode cL_law 1853 = .ok (.fstore 7, 2) := qr1 (P := 1792) (o := 61) (op := 56) (v := 7) qLW28 (by decide +kernel) qo56
theorem dL_law_1855 : decode cL_law 1855 = .ok (.goto 58, 3) := qr2 (P := 1792) (o := 63) (op := 167) (v := 58) qLW28 (by decide +kernel) (fun h h2 => qo167 h (qs2 h2 (by decide +kernel)))
theorem dL_law_1858 : decode cL_law 1858 = .ok (.aload_n 1, 1) := qr0 (P := 1856) (o := 2) (op := 43) qLW29 (by decide +kernel) qo43
theorem dL_law_1859 : decode cL_law 1859 = .ok (.aload_n 0, 1) := qr0 (P := 1856) (o := 3) (op := 42) qLW29 (by decide +kernel) qo42
theorem dL_law_1860 : decode cL_law 1860 = .ok (.iload 5, 2) := qr1 (P := 1856) (o := 4) (op := 21) (v := 5) qLW29 (by decide +kernel) qo21
theorem dL_law_1862 : decode cL_law 1862 = .ok (.iconst 1, 1) := qr0 (P := 1856) (o := 6) (op := 4) qLW29 (by decide +kernel) qo4
theorem dL_law_1863 : decode cL_law 1863 = .ok (.iadd, 1) := qr0 (P := 1856) (o := 7) (op := 96) qLW29 (by decide +kernel) qo96
theorem dL_law_1864 : decode cL_law 1864 = .ok (.iaload, 1) := qr0 (P := 1856) (o := 8) (op := 46) qLW29 (by decide +kernel) qo46
theorem dL_law_1865 : decode cL_law 1865 = .ok (.aload 4, 2) := qr1 (P := 1856) (o := 9) (op := 25) (v := 4) qLW29 (by decide +kernel) qo25
theorem dL_law_1867 : decode cL_law 1867 = .ok (.invokestatic 290, 3) := qr2 (P := 1856) (o := 11) (op := 184) (v := 290) qLW29 (by decide +kernel) qo184
theorem dL_law_1870 : decode cL_law 1870 = .ok (.istore 6, 2) := qr1 (P := 1856) (o := 14) (op := 54) (v := 6) qLW29 (by decide +kernel) qo54
theorem dL_law_1872 : decode cL_law 1872 = .ok (.aload_n 2, 1) := qr0 (P := 1856) (o := 16) (op := 44) qLW29 (by decide +kernel) qo44
theorem dL_law_1873 : decode cL_law 1873 = .ok (.aload_n 0, 1) := qr0 (P := 1856) (o := 17) (op := 42) qLW29 (by decide +kernel) qo42
theorem dL_law_1874 : decode cL_law 1874 = .ok (.iload 5, 2) := qr1 (P := 1856) (o := 18) (op := 21) (v := 5) qLW29 (by decide +kernel) qo21
theorem dL_law_1876 : decode cL_law 1876 = .ok (.iconst 1, 1) := qr0 (P := 1856) (o := 20) (op := 4) qLW29 (by decide +kernel) qo4
theorem dL_law_1877 : decode cL_law 1877 = .ok (.iadd, 1) := qr0 (P := 1856) (o := 21) (op := 96) qLW29 (by decide +kernel) qo96
theorem dL_law_1878 : decode cL_law 1878 = .ok (.iaload, 1) := qr0 (P := 1856) (o := 22) (op := 46) qLW29 (by decide +kernel) qo46
theorem dL_law_1879 : decode cL_law 1879 = .ok (.invokevirtual 292, 3) := qr2 (P := 1856) (o := 23) (op := 182) (v := 292) qLW29 (by decide +kernel) qo182
theorem dL_law_1882 : decode cL_law 1882 = .ok (.dstore 7, 2) := qr1 (P := 1856) (o := 26) (op := 57) (v := 7) qLW29 (by decide +kernel) qo57
theorem dL_law_1884 : decode cL_law 1884 = .ok (.goto 29, 3) := qr2 (P := 1856) (o := 28) (op := 167) (v := 29) qLW29 (by decide +kernel) (fun h h2 => qo167 h (qs2 h2 (by decide +kernel)))
theorem dL_law_1887 : decode cL_law 1887 = .ok (.aload_n 1, 1) := qr0 (P := 1856) (o := 31) (op := 43) qLW29 (by decide +kernel) qo43
theorem dL_law_1888 : decode cL_law 1888 = .ok (.invokevirtual 293, 3) := qr2 (P := 1856) (o := 32) (op := 182) (v := 293) qLW29 (by decide +kernel) qo182
theorem dL_law_1891 : decode cL_law 1891 = .ok (.pop2, 1) := qr0 (P := 1856) (o := 35) (op := 88) qLW29 (by decide +kernel) qo88
theorem dL_law_1892 : decode cL_law 1892 = .ok (.aload_n 2, 1) := qr0 (P := 1856) (o := 36) (op := 44) qLW29 (by decide +kernel) qo44
theorem dL_law_1893 : decode cL_law 1893 = .ok (.invokevirtual 297, 3) := qr2 (P := 1856) (o := 37) (op := 182) (v := 297) qLW29 (by decide +kernel) qo182
theorem dL_law_1896 : decode cL_law 1896 = .ok (.pop2, 1) := qr0 (P := 1856) (o := 40) (op := 88) qLW29 (by decide +kernel) qo88
theorem dL_law_1897 : decode cL_law 1897 = .ok (.goto 16, 3) := qr2 (P := 1856) (o := 41) (op := 167) (v := 16) qLW29 (by decide +kernel) (fun h h2 => qo167 h (qs2 h2 (by decide +kernel)))
theorem dL_law_1900 : decode cL_law 1900 = .ok (.aload_n 1, 1) := qr0 (P := 1856) (o := 44) (op := 43) qLW29 (by decide +kernel) qo43
theorem dL_law_1901 : decode cL_law 1901 = .ok (.invokevirtual 298, 3) := qr2 (P := 1856) (o := 45) (op := 182) (v := 298) qLW29 (by decide +kernel) qo182
theorem dL_law_1904 : decode cL_law 1904 = .ok (.pop, 1) := qr0 (P := 1856) (o := 48) (op := 87) qLW29 (by decide +kernel) qo87
theorem dL_law_1905 : decode cL_law 1905 = .ok (.aload_n 2, 1) := qr0 (P := 1856) (o := 49) (op := 44) qLW29 (by decide +kernel) qo44
theorem dL_law_1906 : decode cL_law 1906 = .ok (.invokevirtual 302, 3) := qr2 (P := 1856) (o := 50) (op := 182) (v := 302) qLW29 (by decide +kernel) qo182
theorem dL_law_1909 : decode cL_law 1909 = .ok (.pop, 1) := qr0 (P := 1856) (o := 53) (op := 87) qLW29 (by decide +kernel) qo87
theorem dL_law_1910 : decode cL_law 1910 = .ok (.goto 3, 3) := qr2 (P := 1856) (o := 54) (op := 167) (v := 3) qLW29 (by decide +kernel) (fun h h2 => qo167 h (qs2 h2 (by decide +kernel)))
theorem dL_law_1913 : decode cL_law 1913 = .ok (.iinc 5 6, 3) := by decide +kernel
theorem dL_law_1916 : decode cL_law 1916 = .ok (.goto (-1888), 3) := qr2 (P := 1856) (o := 60) (op := 167) (v := 63648) qLW29 (by decide +kernel) (fun h h2 => qo167 h (qs2 h2 (by decide +kernel)))
theorem dL_law_1919 : decode cL_law 1919 = .ok (.iconst 1, 1) := qr0 (P := 1856) (o := 63) (op := 4) qLW29 (by decide +kernel) qo4
theorem dL_law_1920 : decode cL_law 1920 = .ok (.ireturn, 1) := qr0 (P := 1920) (o := 0) (op := 172) qLW30 (by decide +kernel) qo172
