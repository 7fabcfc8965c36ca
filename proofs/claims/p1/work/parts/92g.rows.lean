theorem dL_law_1644 : decode cL_law 1644 = .ok (.iinc 3 6, 3) := by decide +kernel
theorem dL_law_1647 : decode cL_law 1647 = .ok (.goto (-1629), 3) := by decide +kernel
theorem dL_law_18 : decode cL_law 18 = .ok (.iload_n 3, 1) := by decide +kernel
theorem dL_law_19 : decode cL_law 19 = .ok (.aload_n 0, 1) := by decide +kernel
theorem dL_law_20 : decode cL_law 20 = .ok (.arraylength, 1) := by decide +kernel
theorem dL_law_21 : decode cL_law 21 = .ok (.bipush 6, 2) := by decide +kernel
theorem dL_law_23 : decode cL_law 23 = .ok (.isub, 1) := by decide +kernel
theorem dL_law_24 : decode cL_law 24 = .ok (.if_icmp .gt 1626, 3) := by decide +kernel
theorem dL_law_1650 : decode cL_law 1650 = .ok (.iconst 1, 1) := by decide +kernel
theorem dL_law_1651 : decode cL_law 1651 = .ok (.ireturn, 1) := by decide +kernel
theorem dL_law_244 : decode cL_law 244 = .ok (.aload_n 1, 1) := by decide +kernel
theorem dL_law_245 : decode cL_law 245 = .ok (.aload_n 0, 1) := by decide +kernel
theorem dL_law_246 : decode cL_law 246 = .ok (.iload_n 3, 1) := by decide +kernel
theorem dL_law_247 : decode cL_law 247 = .ok (.iconst 1, 1) := by decide +kernel
theorem dL_law_248 : decode cL_law 248 = .ok (.iadd, 1) := by decide +kernel
theorem dL_law_249 : decode cL_law 249 = .ok (.iaload, 1) := by decide +kernel
theorem dL_law_250 : decode cL_law 250 = .ok (.aload_n 0, 1) := by decide +kernel
theorem dL_law_251 : decode cL_law 251 = .ok (.iload_n 3, 1) := by decide +kernel
theorem dL_law_252 : decode cL_law 252 = .ok (.iconst 2, 1) := by decide +kernel
theorem dL_law_253 : decode cL_law 253 = .ok (.iadd, 1) := by decide +kernel
theorem dL_law_254 : decode cL_law 254 = .ok (.iaload, 1) := by decide +kernel
theorem dL_law_255 : decode cL_law 255 = .ok (.invokevirtual 13, 3) := by decide +kernel
theorem dL_law_258 : decode cL_law 258 = .ok (.aload_n 2, 1) := by decide +kernel
theorem dL_law_259 : decode cL_law 259 = .ok (.aload_n 0, 1) := by decide +kernel
theorem dL_law_260 : decode cL_law 260 = .ok (.iload_n 3, 1) := by decide +kernel
theorem dL_law_261 : decode cL_law 261 = .ok (.iconst 1, 1) := by decide +kernel
theorem dL_law_262 : decode cL_law 262 = .ok (.iadd, 1) := by decide +kernel
theorem dL_law_263 : decode cL_law 263 = .ok (.iaload, 1) := by decide +kernel
theorem dL_law_264 : decode cL_law 264 = .ok (.aload_n 0, 1) := by decide +kernel
theorem dL_law_265 : decode cL_law 265 = .ok (.iload_n 3, 1) := by decide +kernel
theorem dL_law_266 : decode cL_law 266 = .ok (.iconst 2, 1) := by decide +kernel
theorem dL_law_267 : decode cL_law 267 = .ok (.iadd, 1) := by decide +kernel
theorem dL_law_268 : decode cL_law 268 = .ok (.iaload, 1) := by decide +kernel
theorem dL_law_269 : decode cL_law 269 = .ok (.invokevirtual 17, 3) := by decide +kernel
theorem dL_law_272 : decode cL_law 272 = .ok (.if_icmp .eq 1372, 3) := by decide +kernel
set_option maxRecDepth 20000 in
theorem gq_X11_row : GoodIn lw_tbl (wsV RL 13 RX11 yX11_row wsX11_row) := goodIn_q _ [(2, 192), (2, 193), (2, 194), (1, 1), (2, 195), (2, 158), (2, 196), (2, 197), (1, 1), (2, 198), (2, 199), (2, 201), (0, 0), (2, 202), (2, 167), (2, 166), (2, 203), (2, 204), (2, 205), (1, 11), (2, 206), (2, 129), (2, 132), (2, 207), (2, 208), (1, 14), (2, 209), (2, 169), (2, 171), (2, 173), (2, 175), (2, 177), (2, 179), (2, 181), (2, 183), (2, 185), (2, 187), (2, 189), (2, 135), (2, 137)] (by decide +kernel) (by decide +kernel)
set_option maxRecDepth 20000 in
theorem gq_X12_row : GoodIn lw_tbl (wsV RL 17 RX12 yX12_row wsX12_row) := goodIn_q _ [(5, 180), (5, 181), (5, 182), (1, 13), (5, 183), (5, 44), (5, 184), (5, 185), (1, 13), (5, 186), (5, 187), (5, 188), (5, 189), (5, 190), (5, 192), (0, 26), (5, 193), (5, 41), (5, 42), (5, 194), (5, 196), (0, 27), (5, 197), (5, 45), (5, 87), (5, 89), (5, 91), (5, 93), (5, 95), (5, 97), (5, 99), (5, 101), (5, 103), (5, 105), (5, 107), (5, 109), (5, 111), (5, 113), (5, 115), (5, 117), (5, 119), (5, 121), (5, 123), (5, 125), (5, 127), (5, 129), (5, 131), (5, 133), (5, 135), (5, 137), (5, 139), (5, 141), (5, 143), (5, 145), (5, 147), (5, 149), (5, 151), (5, 153), (5, 155), (5, 157), (5, 159), (5, 161), (5, 163), (5, 165), (5, 167), (5, 169), (5, 171), (5, 173), (5, 175), (5, 177)] (by decide +kernel) (by decide +kernel)
theorem dL_law_277 : decode cL_law 277 = .ok (.aload_n 1, 1) := by decide +kernel
theorem dL_law_278 : decode cL_law 278 = .ok (.aload_n 0, 1) := by decide +kernel
theorem dL_law_279 : decode cL_law 279 = .ok (.iload_n 3, 1) := by decide +kernel
theorem dL_law_280 : decode cL_law 280 = .ok (.iconst 1, 1) := by decide +kernel
theorem dL_law_281 : decode cL_law 281 = .ok (.iadd, 1) := by decide +kernel
theorem dL_law_282 : decode cL_law 282 = .ok (.iaload, 1) := by decide +kernel
theorem dL_law_283 : decode cL_law 283 = .ok (.aload_n 0, 1) := by decide +kernel
theorem dL_law_284 : decode cL_law 284 = .ok (.iload_n 3, 1) := by decide +kernel
theorem dL_law_285 : decode cL_law 285 = .ok (.iconst 2, 1) := by decide +kernel
theorem dL_law_286 : decode cL_law 286 = .ok (.iadd, 1) := by decide +kernel
theorem dL_law_287 : decode cL_law 287 = .ok (.iaload, 1) := by decide +kernel
theorem dL_law_288 : decode cL_law 288 = .ok (.aload_n 0, 1) := by decide +kernel
theorem dL_law_289 : decode cL_law 289 = .ok (.iload_n 3, 1) := by decide +kernel
theorem dL_law_290 : decode cL_law 290 = .ok (.iconst 3, 1) := by decide +kernel
theorem dL_law_291 : decode cL_law 291 = .ok (.iadd, 1) := by decide +kernel
theorem dL_law_292 : decode cL_law 292 = .ok (.iaload, 1) := by decide +kernel
theorem dL_law_293 : decode cL_law 293 = .ok (.invokevirtual 18, 3) := by decide +kernel
theorem dL_law_296 : decode cL_law 296 = .ok (.aload_n 2, 1) := by decide +kernel
theorem dL_law_297 : decode cL_law 297 = .ok (.aload_n 0, 1) := by decide +kernel
theorem dL_law_298 : decode cL_law 298 = .ok (.iload_n 3, 1) := by decide +kernel
theorem dL_law_299 : decode cL_law 299 = .ok (.iconst 1, 1) := by decide +kernel
theorem dL_law_300 : decode cL_law 300 = .ok (.iadd, 1) := by decide +kernel
theorem dL_law_301 : decode cL_law 301 = .ok (.iaload, 1) := by decide +kernel
theorem dL_law_302 : decode cL_law 302 = .ok (.aload_n 0, 1) := by decide +kernel
theorem dL_law_303 : decode cL_law 303 = .ok (.iload_n 3, 1) := by decide +kernel
theorem dL_law_304 : decode cL_law 304 = .ok (.iconst 2, 1) := by decide +kernel
theorem dL_law_305 : decode cL_law 305 = .ok (.iadd, 1) := by decide +kernel
theorem dL_law_306 : decode cL_law 306 = .ok (.iaload, 1) := by decide +kernel
theorem dL_law_307 : decode cL_law 307 = .ok (.aload_n 0, 1) := by decide +kernel
theorem dL_law_308 : decode cL_law 308 = .ok (.iload_n 3, 1) := by decide +kernel
theorem dL_law_309 : decode cL_law 309 = .ok (.iconst 3, 1) := by decide +kernel
theorem dL_law_310 : decode cL_law 310 = .ok (.iadd, 1) := by decide +kernel
theorem dL_law_311 : decode cL_law 311 = .ok (.iaload, 1) := by decide +kernel
theorem dL_law_312 : decode cL_law 312 = .ok (.invokevirtual 22, 3) := by decide +kernel
theorem dL_law_315 : decode cL_law 315 = .ok (.if_icmp .eq 1329, 3) := by decide +kernel
set_option maxRecDepth 20000 in
theorem gq_X11_lay : GoodIn lw_tbl (wsV RL 18 RX11 yX11_lay wsX11_lay) := goodIn_q _ [(2, 210), (2, 211), (2, 212), (1, 1), (2, 213), (2, 158), (2, 130), (2, 168), (2, 214), (2, 216), (0, 1), (1, 1), (2, 217), (2, 134), (2, 218), (2, 220), (0, 2), (2, 221), (2, 196), (2, 197), (2, 198), (2, 222), (2, 223), (2, 224), (1, 11), (2, 225), (2, 132), (2, 199), (2, 201), (0, 0), (2, 202), (2, 167), (2, 166), (2, 169), (2, 171), (2, 173), (2, 175), (2, 177), (2, 179), (2, 181), (2, 183), (2, 185), (2, 187), (2, 189), (2, 135), (2, 137)] (by decide +kernel) (by decide +kernel)
set_option maxRecDepth 20000 in
theorem gq_X12_lay : GoodIn lw_tbl (wsV RL 22 RX12 yX12_lay wsX12_lay) := goodIn_q _ [(5, 214), (5, 215), (5, 216), (1, 13), (5, 217), (5, 218), (5, 199), (5, 200), (1, 13), (5, 201), (5, 44), (5, 202), (5, 204), (0, 28), (5, 205), (5, 184), (5, 185), (5, 186), (5, 187), (5, 188), (5, 189), (5, 190), (5, 192), (0, 26), (5, 193), (5, 41), (5, 42), (5, 206), (5, 208), (0, 29), (5, 209), (5, 45), (5, 210), (5, 212), (0, 30), (5, 213), (5, 43), (5, 194), (5, 196), (0, 27), (5, 197), (5, 87), (5, 89), (5, 91), (5, 93), (5, 95), (5, 97), (5, 99), (5, 101), (5, 103), (5, 105), (5, 107), (5, 109), (5, 111), (5, 113), (5, 115), (5, 117), (5, 119), (5, 121), (5, 123), (5, 125), (5, 127), (5, 129), (5, 131), (5, 133), (5, 135), (5, 137), (5, 139), (5, 141), (5, 143), (5, 145), (5, 147), (5, 149), (5, 151), (5, 153), (5, 155), (5, 157), (5, 159), (5, 161), (5, 163), (5, 165), (5, 167), (5, 169), (5, 171), (5, 173), (5, 175), (5, 177)] (by decide +kernel) (by decide +kernel)
theorem dL_law_320 : decode cL_law 320 = .ok (.aload_n 1, 1) := by decide +kernel
theorem dL_law_321 : decode cL_law 321 = .ok (.aload_n 0, 1) := by decide +kernel
theorem dL_law_322 : decode cL_law 322 = .ok (.iload_n 3, 1) := by decide +kernel
theorem dL_law_323 : decode cL_law 323 = .ok (.iconst 1, 1) := by decide +kernel
theorem dL_law_324 : decode cL_law 324 = .ok (.iadd, 1) := by decide +kernel
theorem dL_law_325 : decode cL_law 325 = .ok (.iaload, 1) := by decide +kernel
theorem dL_law_326 : decode cL_law 326 = .ok (.aload_n 0, 1) := by decide +kernel
theorem dL_law_327 : decode cL_law 327 = .ok (.iload_n 3, 1) := by decide +kernel
theorem dL_law_328 : decode cL_law 328 = .ok (.iconst 2, 1) := by decide +kernel
theorem dL_law_329 : decode cL_law 329 = .ok (.iadd, 1) := by decide +kernel
theorem dL_law_330 : decode cL_law 330 = .ok (.iaload, 1) := by decide +kernel
theorem dL_law_331 : decode cL_law 331 = .ok (.invokevirtual 23, 3) := by decide +kernel
theorem dL_law_334 : decode cL_law 334 = .ok (.aload_n 2, 1) := by decide +kernel
theorem dL_law_335 : decode cL_law 335 = .ok (.aload_n 0, 1) := by decide +kernel
theorem dL_law_336 : decode cL_law 336 = .ok (.iload_n 3, 1) := by decide +kernel
theorem dL_law_337 : decode cL_law 337 = .ok (.iconst 1, 1) := by decide +kernel
theorem dL_law_338 : decode cL_law 338 = .ok (.iadd, 1) := by decide +kernel
theorem dL_law_339 : decode cL_law 339 = .ok (.iaload, 1) := by decide +kernel
theorem dL_law_340 : decode cL_law 340 = .ok (.aload_n 0, 1) := by decide +kernel
theorem dL_law_341 : decode cL_law 341 = .ok (.iload_n 3, 1) := by decide +kernel
theorem dL_law_342 : decode cL_law 342 = .ok (.iconst 2, 1) := by decide +kernel
theorem dL_law_343 : decode cL_law 343 = .ok (.iadd, 1) := by decide +kernel
theorem dL_law_344 : decode cL_law 344 = .ok (.iaload, 1) := by decide +kernel
theorem dL_law_345 : decode cL_law 345 = .ok (.invokevirtual 26, 3) := by decide +kernel
theorem dL_law_348 : decode cL_law 348 = .ok (.if_icmp .eq 1296, 3) := by decide +kernel
set_option maxRecDepth 20000 in
theorem gq_X11_at : GoodIn lw_tbl (wsV RL 23 RX11 yX11_at wsX11_at) := goodIn_q _ [(2, 226), (2, 227), (2, 228), (1, 1), (2, 229), (2, 158), (2, 130), (2, 168), (2, 214), (2, 216), (0, 1), (1, 1), (2, 217), (2, 134), (2, 218), (2, 220), (0, 2), (2, 221), (2, 196), (2, 197), (2, 198), (2, 222), (2, 223), (2, 224), (1, 11), (2, 225), (2, 132), (2, 199), (2, 201), (0, 0), (2, 202), (2, 167), (2, 166), (2, 169), (2, 171), (2, 173), (2, 175), (2, 177), (2, 179), (2, 181), (2, 183), (2, 185), (2, 187), (2, 189), (2, 135), (2, 137)] (by decide +kernel) (by decide +kernel)
set_option maxRecDepth 20000 in
theorem gq_X12_at : GoodIn lw_tbl (wsV RL 26 RX12 yX12_at wsX12_at) := goodIn_q _ [(5, 198), (5, 199), (5, 200), (1, 13), (5, 201), (5, 44), (5, 202), (5, 204), (0, 28), (1, 13), (5, 205), (5, 184), (5, 185), (5, 186), (5, 187), (5, 188), (5, 189), (5, 190), (5, 192), (0, 26), (5, 193), (5, 41), (5, 42), (5, 206), (5, 208), (0, 29), (5, 209), (5, 45), (5, 210), (5, 212), (0, 30), (5, 213), (5, 43), (5, 87), (5, 89), (5, 91), (5, 93), (5, 95), (5, 97), (5, 99), (5, 101), (5, 103), (5, 105), (5, 107), (5, 109), (5, 111), (5, 113), (5, 115), (5, 117), (5, 119), (5, 121), (5, 123), (5, 125), (5, 127), (5, 129), (5, 131), (5, 133), (5, 135), (5, 137), (5, 139), (5, 141), (5, 143), (5, 145), (5, 147), (5, 149), (5, 151), (5, 153), (5, 155), (5, 157), (5, 159), (5, 161), (5, 163), (5, 165), (5, 167), (5, 169), (5, 171), (5, 173), (5, 175), (5, 177)] (by decide +kernel) (by decide +kernel)
theorem dL_law_353 : decode cL_law 353 = .ok (.aload_n 1, 1) := by decide +kernel
theorem dL_law_354 : decode cL_law 354 = .ok (.aload_n 0, 1) := by decide +kernel
theorem dL_law_355 : decode cL_law 355 = .ok (.iload_n 3, 1) := by decide +kernel
theorem dL_law_356 : decode cL_law 356 = .ok (.iconst 1, 1) := by decide +kernel
theorem dL_law_357 : decode cL_law 357 = .ok (.iadd, 1) := by decide +kernel
theorem dL_law_358 : decode cL_law 358 = .ok (.iaload, 1) := by decide +kernel
theorem dL_law_359 : decode cL_law 359 = .ok (.invokevirtual 27, 3) := by decide +kernel
theorem dL_law_362 : decode cL_law 362 = .ok (.aload_n 2, 1) := by decide +kernel
theorem dL_law_363 : decode cL_law 363 = .ok (.aload_n 0, 1) := by decide +kernel
theorem dL_law_364 : decode cL_law 364 = .ok (.iload_n 3, 1) := by decide +kernel
theorem dL_law_365 : decode cL_law 365 = .ok (.iconst 1, 1) := by decide +kernel
theorem dL_law_366 : decode cL_law 366 = .ok (.iadd, 1) := by decide +kernel
theorem dL_law_367 : decode cL_law 367 = .ok (.iaload, 1) := by decide +kernel
theorem dL_law_368 : decode cL_law 368 = .ok (.invokevirtual 31, 3) := by decide +kernel
theorem dL_law_371 : decode cL_law 371 = .ok (.if_icmp .eq 1273, 3) := by decide +kernel
set_option maxRecDepth 20000 in
theorem gq_X11_tear : GoodIn lw_tbl (wsV RL 27 RX11 yX11_tear wsX11_tear) := goodIn_q _ [(2, 230), (2, 231), (2, 232), (1, 1), (2, 233), (2, 158), (2, 134), (2, 218), (2, 220), (0, 2), (1, 1), (2, 221), (2, 196), (2, 197), (2, 198), (2, 222), (2, 223), (2, 224), (1, 11), (2, 225), (2, 132), (2, 199), (2, 201), (0, 0), (2, 202), (2, 167), (2, 166), (2, 169), (2, 171), (2, 173), (2, 175), (2, 177), (2, 179), (2, 181), (2, 183), (2, 185), (2, 187), (2, 189), (2, 135), (2, 137)] (by decide +kernel) (by decide +kernel)
set_option maxRecDepth 20000 in
theorem gq_X12_tear : GoodIn lw_tbl (wsV RL 31 RX12 yX12_tear wsX12_tear) := goodIn_q _ [(5, 219), (5, 220), (5, 221), (1, 13), (5, 222), (5, 44), (5, 202), (5, 204), (0, 28), (1, 13), (5, 205), (5, 184), (5, 185), (5, 186), (5, 187), (5, 188), (5, 189), (5, 190), (5, 192), (0, 26), (5, 193), (5, 41), (5, 42), (5, 87), (5, 89), (5, 91), (5, 93), (5, 95), (5, 97), (5, 99), (5, 101), (5, 103), (5, 105), (5, 107), (5, 109), (5, 111), (5, 113), (5, 115), (5, 117), (5, 119), (5, 121), (5, 123), (5, 125), (5, 127), (5, 129), (5, 131), (5, 133), (5, 135), (5, 137), (5, 139), (5, 141), (5, 143), (5, 145), (5, 147), (5, 149), (5, 151), (5, 153), (5, 155), (5, 157), (5, 159), (5, 161), (5, 163), (5, 165), (5, 167), (5, 169), (5, 171), (5, 173), (5, 175), (5, 177)] (by decide +kernel) (by decide +kernel)
theorem dL_law_376 : decode cL_law 376 = .ok (.aload_n 1, 1) := by decide +kernel
theorem dL_law_377 : decode cL_law 377 = .ok (.aload_n 0, 1) := by decide +kernel
theorem dL_law_378 : decode cL_law 378 = .ok (.iload_n 3, 1) := by decide +kernel
theorem dL_law_379 : decode cL_law 379 = .ok (.iconst 1, 1) := by decide +kernel
theorem dL_law_380 : decode cL_law 380 = .ok (.iadd, 1) := by decide +kernel
theorem dL_law_381 : decode cL_law 381 = .ok (.iaload, 1) := by decide +kernel
theorem dL_law_382 : decode cL_law 382 = .ok (.aload_n 0, 1) := by decide +kernel
theorem dL_law_383 : decode cL_law 383 = .ok (.iload_n 3, 1) := by decide +kernel
theorem dL_law_384 : decode cL_law 384 = .ok (.iconst 2, 1) := by decide +kernel
theorem dL_law_385 : decode cL_law 385 = .ok (.iadd, 1) := by decide +kernel
theorem dL_law_386 : decode cL_law 386 = .ok (.iaload, 1) := by decide +kernel
theorem dL_law_387 : decode cL_law 387 = .ok (.aload_n 0, 1) := by decide +kernel
theorem dL_law_388 : decode cL_law 388 = .ok (.iload_n 3, 1) := by decide +kernel
theorem dL_law_389 : decode cL_law 389 = .ok (.iconst 3, 1) := by decide +kernel
theorem dL_law_390 : decode cL_law 390 = .ok (.iadd, 1) := by decide +kernel
theorem dL_law_391 : decode cL_law 391 = .ok (.iaload, 1) := by decide +kernel
theorem dL_law_392 : decode cL_law 392 = .ok (.aload_n 0, 1) := by decide +kernel
theorem dL_law_393 : decode cL_law 393 = .ok (.iload_n 3, 1) := by decide +kernel
theorem dL_law_394 : decode cL_law 394 = .ok (.iconst 4, 1) := by decide +kernel
theorem dL_law_395 : decode cL_law 395 = .ok (.iadd, 1) := by decide +kernel
theorem dL_law_396 : decode cL_law 396 = .ok (.iaload, 1) := by decide +kernel
theorem dL_law_397 : decode cL_law 397 = .ok (.aload_n 0, 1) := by decide +kernel
theorem dL_law_398 : decode cL_law 398 = .ok (.iload_n 3, 1) := by decide +kernel
theorem dL_law_399 : decode cL_law 399 = .ok (.iconst 5, 1) := by decide +kernel
theorem dL_law_400 : decode cL_law 400 = .ok (.iadd, 1) := by decide +kernel
theorem dL_law_401 : decode cL_law 401 = .ok (.iaload, 1) := by decide +kernel
theorem dL_law_402 : decode cL_law 402 = .ok (.invokevirtual 32, 3) := by decide +kernel
theorem dL_law_405 : decode cL_law 405 = .ok (.aload_n 2, 1) := by decide +kernel
theorem dL_law_406 : decode cL_law 406 = .ok (.aload_n 0, 1) := by decide +kernel
theorem dL_law_407 : decode cL_law 407 = .ok (.iload_n 3, 1) := by decide +kernel
theorem dL_law_408 : decode cL_law 408 = .ok (.iconst 1, 1) := by decide +kernel
theorem dL_law_409 : decode cL_law 409 = .ok (.iadd, 1) := by decide +kernel
theorem dL_law_410 : decode cL_law 410 = .ok (.iaload, 1) := by decide +kernel
theorem dL_law_411 : decode cL_law 411 = .ok (.aload_n 0, 1) := by decide +kernel
theorem dL_law_412 : decode cL_law 412 = .ok (.iload_n 3, 1) := by decide +kernel
theorem dL_law_413 : decode cL_law 413 = .ok (.iconst 2, 1) := by decide +kernel
theorem dL_law_414 : decode cL_law 414 = .ok (.iadd, 1) := by decide +kernel
theorem dL_law_415 : decode cL_law 415 = .ok (.iaload, 1) := by decide +kernel
theorem dL_law_416 : decode cL_law 416 = .ok (.aload_n 0, 1) := by decide +kernel
theorem dL_law_417 : decode cL_law 417 = .ok (.iload_n 3, 1) := by decide +kernel
theorem dL_law_418 : decode cL_law 418 = .ok (.iconst 3, 1) := by decide +kernel
theorem dL_law_419 : decode cL_law 419 = .ok (.iadd, 1) := by decide +kernel
theorem dL_law_420 : decode cL_law 420 = .ok (.iaload, 1) := by decide +kernel
theorem dL_law_421 : decode cL_law 421 = .ok (.aload_n 0, 1) := by decide +kernel
theorem dL_law_422 : decode cL_law 422 = .ok (.iload_n 3, 1) := by decide +kernel
theorem dL_law_423 : decode cL_law 423 = .ok (.iconst 4, 1) := by decide +kernel
theorem dL_law_424 : decode cL_law 424 = .ok (.iadd, 1) := by decide +kernel
theorem dL_law_425 : decode cL_law 425 = .ok (.iaload, 1) := by decide +kernel
theorem dL_law_426 : decode cL_law 426 = .ok (.aload_n 0, 1) := by decide +kernel
theorem dL_law_427 : decode cL_law 427 = .ok (.iload_n 3, 1) := by decide +kernel
theorem dL_law_428 : decode cL_law 428 = .ok (.iconst 5, 1) := by decide +kernel
theorem dL_law_429 : decode cL_law 429 = .ok (.iadd, 1) := by decide +kernel
theorem dL_law_430 : decode cL_law 430 = .ok (.iaload, 1) := by decide +kernel
theorem dL_law_431 : decode cL_law 431 = .ok (.invokevirtual 36, 3) := by decide +kernel
theorem dL_law_434 : decode cL_law 434 = .ok (.if_icmp .eq 1210, 3) := by decide +kernel
set_option maxRecDepth 20000 in
theorem gq_X11_copy : GoodIn lw_tbl (wsV RL 32 RX11 yX11_copy wsX11_copy) := goodIn_q _ [(2, 234), (2, 235), (2, 236), (1, 1), (2, 237), (2, 158), (2, 130), (3, 2), (3, 4), (3, 3), (1, 15), (2, 196), (2, 197), (1, 1), (2, 198), (2, 199), (2, 201), (0, 0), (2, 202), (2, 167), (2, 166), (2, 222), (2, 223), (2, 224), (1, 11), (2, 225), (2, 132), (2, 238), (2, 239), (3, 0), (3, 1), (2, 169), (2, 171), (2, 173), (2, 175), (2, 177), (2, 179), (2, 181), (2, 183), (2, 185), (2, 187), (2, 189), (2, 135), (2, 137)] (by decide +kernel) (by decide +kernel)
set_option maxRecDepth 20000 in
theorem gq_X12_copy : GoodIn lw_tbl (wsV RL 36 RX12 yX12_copy wsX12_copy) := goodIn_q _ [(5, 223), (5, 224), (5, 225), (1, 13), (5, 226), (5, 44), (5, 46), (5, 184), (5, 185), (1, 13), (5, 186), (5, 187), (5, 188), (5, 189), (5, 190), (5, 192), (0, 26), (5, 193), (5, 41), (5, 42), (5, 206), (5, 208), (0, 29), (5, 209), (5, 45), (5, 194), (5, 196), (0, 27), (5, 197), (5, 87), (5, 89), (5, 91), (5, 93), (5, 95), (5, 97), (5, 99), (5, 101), (5, 103), (5, 105), (5, 107), (5, 109), (5, 111), (5, 113), (5, 115), (5, 117), (5, 119), (5, 121), (5, 123), (5, 125), (5, 127), (5, 129), (5, 131), (5, 133), (5, 135), (5, 137), (5, 139), (5, 141), (5, 143), (5, 145), (5, 147), (5, 149), (5, 151), (5, 153), (5, 155), (5, 157), (5, 159), (5, 161), (5, 163), (5, 165), (5, 167), (5, 169), (5, 171), (5, 173), (5, 175), (5, 177)] (by decide +kernel) (by decide +kernel)
theorem dL_law_439 : decode cL_law 439 = .ok (.aload_n 1, 1) := by decide +kernel
theorem dL_law_440 : decode cL_law 440 = .ok (.aload_n 0, 1) := by decide +kernel
theorem dL_law_441 : decode cL_law 441 = .ok (.iload_n 3, 1) := by decide +kernel
theorem dL_law_442 : decode cL_law 442 = .ok (.iconst 1, 1) := by decide +kernel
theorem dL_law_443 : decode cL_law 443 = .ok (.iadd, 1) := by decide +kernel
theorem dL_law_444 : decode cL_law 444 = .ok (.iaload, 1) := by decide +kernel
theorem dL_law_445 : decode cL_law 445 = .ok (.invokevirtual 37, 3) := by decide +kernel
theorem dL_law_448 : decode cL_law 448 = .ok (.aload_n 2, 1) := by decide +kernel
theorem dL_law_449 : decode cL_law 449 = .ok (.aload_n 0, 1) := by decide +kernel
theorem dL_law_450 : decode cL_law 450 = .ok (.iload_n 3, 1) := by decide +kernel
theorem dL_law_451 : decode cL_law 451 = .ok (.iconst 1, 1) := by decide +kernel
theorem dL_law_452 : decode cL_law 452 = .ok (.iadd, 1) := by decide +kernel
theorem dL_law_453 : decode cL_law 453 = .ok (.iaload, 1) := by decide +kernel
theorem dL_law_454 : decode cL_law 454 = .ok (.invokevirtual 40, 3) := by decide +kernel
theorem dL_law_457 : decode cL_law 457 = .ok (.if_icmp .eq 1187, 3) := by decide +kernel
set_option maxRecDepth 20000 in
theorem gq_X11_mean : GoodIn lw_tbl (wsV RL 37 RX11 yX11_mean wsX11_mean) := goodIn_q _ [(3, 5), (3, 6), (3, 7), (1, 1), (3, 8), (2, 158), (2, 134), (2, 130), (2, 168), (2, 218), (2, 220), (0, 2), (1, 1), (2, 221), (2, 196), (2, 197), (2, 198), (2, 222), (2, 223), (2, 224), (1, 11), (2, 225), (2, 132), (2, 199), (2, 201), (0, 0), (2, 202), (2, 167), (2, 166), (2, 169), (2, 171), (2, 173), (2, 175), (2, 177), (2, 179), (2, 181), (2, 183), (2, 185), (2, 187), (2, 189), (2, 135), (2, 137)] (by decide +kernel) (by decide +kernel)
set_option maxRecDepth 20000 in
theorem gq_X12_mean : GoodIn lw_tbl (wsV RL 40 RX12 yX12_mean wsX12_mean) := goodIn_q _ [(5, 227), (5, 228), (5, 229), (1, 13), (5, 230), (5, 44), (5, 202), (5, 204), (0, 28), (1, 13), (5, 205), (5, 184), (5, 185), (5, 186), (5, 187), (5, 188), (5, 189), (5, 190), (5, 192), (0, 26), (5, 193), (5, 41), (5, 42), (5, 206), (5, 208), (0, 29), (5, 209), (5, 45), (5, 210), (5, 212), (0, 30), (5, 213), (5, 43), (5, 87), (5, 89), (5, 91), (5, 93), (5, 95), (5, 97), (5, 99), (5, 101), (5, 103), (5, 105), (5, 107), (5, 109), (5, 111), (5, 113), (5, 115), (5, 117), (5, 119), (5, 121), (5, 123), (5, 125), (5, 127), (5, 129), (5, 131), (5, 133), (5, 135), (5, 137), (5, 139), (5, 141), (5, 143), (5, 145), (5, 147), (5, 149), (5, 151), (5, 153), (5, 155), (5, 157), (5, 159), (5, 161), (5, 163), (5, 165), (5, 167), (5, 169), (5, 171), (5, 173), (5, 175), (5, 177)] (by decide +kernel) (by decide +kernel)
theorem dL_law_462 : decode cL_law 462 = .ok (.aload_n 1, 1) := by decide +kernel
theorem dL_law_463 : decode cL_law 463 = .ok (.aload_n 0, 1) := by decide +kernel
theorem dL_law_464 : decode cL_law 464 = .ok (.iload_n 3, 1) := by decide +kernel
theorem dL_law_465 : decode cL_law 465 = .ok (.iconst 1, 1) := by decide +kernel
theorem dL_law_466 : decode cL_law 466 = .ok (.iadd, 1) := by decide +kernel
theorem dL_law_467 : decode cL_law 467 = .ok (.iaload, 1) := by decide +kernel
theorem dL_law_468 : decode cL_law 468 = .ok (.aload_n 0, 1) := by decide +kernel
theorem dL_law_469 : decode cL_law 469 = .ok (.iload_n 3, 1) := by decide +kernel
theorem dL_law_470 : decode cL_law 470 = .ok (.iconst 2, 1) := by decide +kernel
theorem dL_law_471 : decode cL_law 471 = .ok (.iadd, 1) := by decide +kernel
theorem dL_law_472 : decode cL_law 472 = .ok (.iaload, 1) := by decide +kernel
theorem dL_law_473 : decode cL_law 473 = .ok (.invokevirtual 41, 3) := by decide +kernel
theorem dL_law_476 : decode cL_law 476 = .ok (.aload_n 2, 1) := by decide +kernel
theorem dL_law_477 : decode cL_law 477 = .ok (.aload_n 0, 1) := by decide +kernel
theorem dL_law_478 : decode cL_law 478 = .ok (.iload_n 3, 1) := by decide +kernel
theorem dL_law_479 : decode cL_law 479 = .ok (.iconst 1, 1) := by decide +kernel
theorem dL_law_480 : decode cL_law 480 = .ok (.iadd, 1) := by decide +kernel
theorem dL_law_481 : decode cL_law 481 = .ok (.iaload, 1) := by decide +kernel
theorem dL_law_482 : decode cL_law 482 = .ok (.aload_n 0, 1) := by decide +kernel
theorem dL_law_483 : decode cL_law 483 = .ok (.iload_n 3, 1) := by decide +kernel
theorem dL_law_484 : decode cL_law 484 = .ok (.iconst 2, 1) := by decide +kernel
theorem dL_law_485 : decode cL_law 485 = .ok (.iadd, 1) := by decide +kernel
theorem dL_law_486 : decode cL_law 486 = .ok (.iaload, 1) := by decide +kernel
theorem dL_law_487 : decode cL_law 487 = .ok (.invokevirtual 44, 3) := by decide +kernel
theorem dL_law_490 : decode cL_law 490 = .ok (.if_icmp .eq 1154, 3) := by decide +kernel
set_option maxRecDepth 20000 in
theorem gq_X11_text : GoodIn lw_tbl (wsV RL 41 RX11 yX11_text wsX11_text) := goodIn_q _ [(3, 9), (3, 10), (3, 11), (1, 1), (3, 12), (2, 159), (3, 13), (3, 14), (1, 1), (3, 15), (2, 199), (2, 201), (0, 0), (2, 202), (2, 167), (2, 166), (3, 16), (3, 17), (3, 18), (1, 12), (3, 19), (2, 145), (2, 148), (3, 20), (3, 21), (1, 14), (3, 22), (2, 169), (2, 171), (2, 173), (2, 175), (2, 177), (2, 179), (2, 181), (2, 183), (2, 185), (2, 187), (2, 189), (2, 151), (2, 153)] (by decide +kernel) (by decide +kernel)
set_option maxRecDepth 20000 in
theorem gq_X12_text : GoodIn lw_tbl (wsV RL 44 RX12 yX12_text wsX12_text) := goodIn_q _ [(5, 231), (5, 232), (5, 233), (1, 13), (5, 234), (5, 47), (5, 48), (5, 235), (5, 236), (1, 13), (5, 237), (5, 187), (5, 188), (5, 189), (5, 190), (5, 192), (0, 26), (5, 193), (5, 41), (5, 42), (5, 87), (5, 89), (5, 91), (5, 93), (5, 95), (5, 97), (5, 99), (5, 101), (5, 103), (5, 105), (5, 107), (5, 109), (5, 111), (5, 113), (5, 115), (5, 117), (5, 119), (5, 121), (5, 123), (5, 125), (5, 127), (5, 129), (5, 131), (5, 133), (5, 135), (5, 137), (5, 139), (5, 141), (5, 143), (5, 145), (5, 147), (5, 149), (5, 151), (5, 153), (5, 155), (5, 157), (5, 159), (5, 161), (5, 163), (5, 165), (5, 167), (5, 169), (5, 171), (5, 173), (5, 175), (5, 177)] (by decide +kernel) (by decide +kernel)
theorem dL_law_495 : decode cL_law 495 = .ok (.aload_n 1, 1) := by decide +kernel
theorem dL_law_496 : decode cL_law 496 = .ok (.aload_n 0, 1) := by decide +kernel
theorem dL_law_497 : decode cL_law 497 = .ok (.iload_n 3, 1) := by decide +kernel
theorem dL_law_498 : decode cL_law 498 = .ok (.iconst 1, 1) := by decide +kernel
theorem dL_law_499 : decode cL_law 499 = .ok (.iadd, 1) := by decide +kernel
theorem dL_law_500 : decode cL_law 500 = .ok (.iaload, 1) := by decide +kernel
theorem dL_law_501 : decode cL_law 501 = .ok (.aload_n 0, 1) := by decide +kernel
theorem dL_law_502 : decode cL_law 502 = .ok (.iload_n 3, 1) := by decide +kernel
theorem dL_law_503 : decode cL_law 503 = .ok (.iconst 2, 1) := by decide +kernel
theorem dL_law_504 : decode cL_law 504 = .ok (.iadd, 1) := by decide +kernel
theorem dL_law_505 : decode cL_law 505 = .ok (.iaload, 1) := by decide +kernel
theorem dL_law_506 : decode cL_law 506 = .ok (.aload_n 0, 1) := by decide +kernel
theorem dL_law_507 : decode cL_law 507 = .ok (.iload_n 3, 1) := by decide +kernel
theorem dL_law_508 : decode cL_law 508 = .ok (.iconst 3, 1) := by decide +kernel
theorem dL_law_509 : decode cL_law 509 = .ok (.iadd, 1) := by decide +kernel
theorem dL_law_510 : decode cL_law 510 = .ok (.iaload, 1) := by decide +kernel
theorem dL_law_511 : decode cL_law 511 = .ok (.invokevirtual 45, 3) := by decide +kernel
theorem dL_law_514 : decode cL_law 514 = .ok (.aload_n 2, 1) := by decide +kernel
theorem dL_law_515 : decode cL_law 515 = .ok (.aload_n 0, 1) := by decide +kernel
theorem dL_law_516 : decode cL_law 516 = .ok (.iload_n 3, 1) := by decide +kernel
theorem dL_law_517 : decode cL_law 517 = .ok (.iconst 1, 1) := by decide +kernel
theorem dL_law_518 : decode cL_law 518 = .ok (.iadd, 1) := by decide +kernel
theorem dL_law_519 : decode cL_law 519 = .ok (.iaload, 1) := by decide +kernel
theorem dL_law_520 : decode cL_law 520 = .ok (.aload_n 0, 1) := by decide +kernel
theorem dL_law_521 : decode cL_law 521 = .ok (.iload_n 3, 1) := by decide +kernel
theorem dL_law_522 : decode cL_law 522 = .ok (.iconst 2, 1) := by decide +kernel
theorem dL_law_523 : decode cL_law 523 = .ok (.iadd, 1) := by decide +kernel
theorem dL_law_524 : decode cL_law 524 = .ok (.iaload, 1) := by decide +kernel
theorem dL_law_525 : decode cL_law 525 = .ok (.aload_n 0, 1) := by decide +kernel
theorem dL_law_526 : decode cL_law 526 = .ok (.iload_n 3, 1) := by decide +kernel
theorem dL_law_527 : decode cL_law 527 = .ok (.iconst 3, 1) := by decide +kernel
theorem dL_law_528 : decode cL_law 528 = .ok (.iadd, 1) := by decide +kernel
theorem dL_law_529 : decode cL_law 529 = .ok (.iaload, 1) := by decide +kernel
theorem dL_law_530 : decode cL_law 530 = .ok (.invokevirtual 48, 3) := by decide +kernel
theorem dL_law_533 : decode cL_law 533 = .ok (.if_icmp .eq 1111, 3) := by decide +kernel
set_option maxRecDepth 20000 in
theorem gq_X11_put : GoodIn lw_tbl (wsV RL 45 RX11 yX11_put wsX11_put) := goodIn_q _ [(3, 23), (3, 24), (3, 25), (1, 1), (3, 26), (2, 159), (2, 150), (2, 147), (3, 27), (3, 29), (0, 3), (1, 1), (3, 30), (3, 13), (3, 14), (3, 15), (3, 31), (3, 32), (3, 33), (1, 12), (3, 34), (2, 148), (2, 199), (2, 201), (0, 0), (2, 202), (2, 167), (2, 166), (2, 169), (2, 171), (2, 173), (2, 175), (2, 177), (2, 179), (2, 181), (2, 183), (2, 185), (2, 187), (2, 189), (2, 151), (2, 153)] (by decide +kernel) (by decide +kernel)
set_option maxRecDepth 20000 in
theorem gq_X12_put : GoodIn lw_tbl (wsV RL 48 RX12 yX12_put wsX12_put) := goodIn_q _ [(5, 238), (5, 239), (6, 0), (1, 13), (6, 1), (5, 47), (5, 48), (6, 2), (6, 4), (0, 31), (1, 13), (6, 5), (5, 235), (5, 236), (5, 237), (5, 187), (5, 188), (5, 189), (5, 190), (5, 192), (0, 26), (5, 193), (5, 41), (5, 42), (5, 87), (5, 89), (5, 91), (5, 93), (5, 95), (5, 97), (5, 99), (5, 101), (5, 103), (5, 105), (5, 107), (5, 109), (5, 111), (5, 113), (5, 115), (5, 117), (5, 119), (5, 121), (5, 123), (5, 125), (5, 127), (5, 129), (5, 131), (5, 133), (5, 135), (5, 137), (5, 139), (5, 141), (5, 143), (5, 145), (5, 147), (5, 149), (5, 151), (5, 153), (5, 155), (5, 157), (5, 159), (5, 161), (5, 163), (5, 165), (5, 167), (5, 169), (5, 171), (5, 173), (5, 175), (5, 177)] (by decide +kernel) (by decide +kernel)
theorem dL_law_538 : decode cL_law 538 = .ok (.aload_n 1, 1) := by decide +kernel
theorem dL_law_539 : decode cL_law 539 = .ok (.aload_n 0, 1) := by decide +kernel
theorem dL_law_540 : decode cL_law 540 = .ok (.iload_n 3, 1) := by decide +kernel
theorem dL_law_541 : decode cL_law 541 = .ok (.iconst 1, 1) := by decide +kernel
theorem dL_law_542 : decode cL_law 542 = .ok (.iadd, 1) := by decide +kernel
theorem dL_law_543 : decode cL_law 543 = .ok (.iaload, 1) := by decide +kernel
theorem dL_law_544 : decode cL_law 544 = .ok (.invokevirtual 49, 3) := by decide +kernel
theorem dL_law_547 : decode cL_law 547 = .ok (.aload_n 2, 1) := by decide +kernel
theorem dL_law_548 : decode cL_law 548 = .ok (.aload_n 0, 1) := by decide +kernel
theorem dL_law_549 : decode cL_law 549 = .ok (.iload_n 3, 1) := by decide +kernel
theorem dL_law_550 : decode cL_law 550 = .ok (.iconst 1, 1) := by decide +kernel
theorem dL_law_551 : decode cL_law 551 = .ok (.iadd, 1) := by decide +kernel
theorem dL_law_552 : decode cL_law 552 = .ok (.iaload, 1) := by decide +kernel
theorem dL_law_553 : decode cL_law 553 = .ok (.invokevirtual 52, 3) := by decide +kernel
theorem dL_law_556 : decode cL_law 556 = .ok (.if_icmp .eq 1088, 3) := by decide +kernel
set_option maxRecDepth 20000 in
theorem gq_X11_fault : GoodIn lw_tbl (wsV RL 49 RX11 yX11_fault wsX11_fault) := goodIn_q _ [(3, 35), (3, 36), (3, 37), (1, 1), (3, 38), (2, 162), (2, 159), (3, 27), (3, 29), (0, 3), (1, 1), (3, 30), (3, 13), (3, 14), (3, 15), (3, 31), (3, 32), (3, 33), (1, 12), (3, 34), (2, 148), (2, 199), (2, 201), (0, 0), (2, 202), (2, 167), (2, 166), (3, 39), (3, 40), (3, 41), (1, 5), (3, 42), (1, 195), (1, 196), (2, 149), (2, 146), (3, 43), (3, 45), (0, 4), (3, 46), (1, 193), (1, 194), (3, 47), (3, 48), (3, 49), (3, 50), (2, 145), (3, 51), (3, 53), (0, 5), (3, 54), (1, 191), (1, 192), (3, 55), (3, 56), (3, 57), (2, 169), (2, 171), (2, 173), (2, 175), (2, 177), (2, 179), (2, 181), (2, 183), (2, 185), (2, 187), (2, 189), (2, 151), (2, 153), (1, 197), (1, 199), (1, 201), (1, 203), (1, 205), (1, 207)] (by decide +kernel) (by decide +kernel)
set_option maxRecDepth 20000 in
theorem gq_X12_fault : GoodIn lw_tbl (wsV RL 52 RX12 yX12_fault wsX12_fault) := goodIn_q _ [(6, 6), (6, 7), (6, 8), (1, 13), (6, 9), (6, 2), (6, 4), (0, 31), (1, 13), (6, 5), (5, 47), (5, 235), (5, 236), (5, 237), (5, 187), (5, 188), (5, 189), (5, 190), (5, 192), (0, 26), (5, 193), (5, 41), (5, 42), (6, 10), (6, 12), (0, 32), (6, 13), (5, 59), (5, 60), (5, 61), (6, 14), (6, 16), (0, 33), (6, 17), (5, 48), (6, 18), (6, 20), (0, 34), (6, 21), (5, 64), (6, 22), (6, 24), (0, 35), (6, 25), (5, 62), (5, 63), (6, 26), (6, 27), (6, 28), (5, 87), (5, 89), (5, 91), (5, 93), (5, 95), (5, 97), (5, 99), (5, 101), (5, 103), (5, 105), (5, 107), (5, 109), (5, 111), (5, 113), (5, 115), (5, 117), (5, 119), (5, 121), (5, 123), (5, 125), (5, 127), (5, 129), (5, 131), (5, 133), (5, 135), (5, 137), (5, 139), (5, 141), (5, 143), (5, 145), (5, 147), (5, 149), (5, 151), (5, 153), (5, 155), (5, 157), (5, 159), (5, 161), (5, 163), (5, 165), (5, 167), (5, 169), (5, 171), (5, 173), (5, 175), (5, 177)] (by decide +kernel) (by decide +kernel)
theorem dL_law_561 : decode cL_law 561 = .ok (.aload_n 1, 1) := by decide +kernel
theorem dL_law_562 : decode cL_law 562 = .ok (.aload_n 0, 1) := by decide +kernel
theorem dL_law_563 : decode cL_law 563 = .ok (.iload_n 3, 1) := by decide +kernel
theorem dL_law_564 : decode cL_law 564 = .ok (.iconst 1, 1) := by decide +kernel
theorem dL_law_565 : decode cL_law 565 = .ok (.iadd, 1) := by decide +kernel
theorem dL_law_566 : decode cL_law 566 = .ok (.iaload, 1) := by decide +kernel
theorem dL_law_567 : decode cL_law 567 = .ok (.invokevirtual 53, 3) := by decide +kernel
theorem dL_law_570 : decode cL_law 570 = .ok (.aload_n 2, 1) := by decide +kernel
theorem dL_law_571 : decode cL_law 571 = .ok (.aload_n 0, 1) := by decide +kernel
theorem dL_law_572 : decode cL_law 572 = .ok (.iload_n 3, 1) := by decide +kernel
theorem dL_law_573 : decode cL_law 573 = .ok (.iconst 1, 1) := by decide +kernel
theorem dL_law_574 : decode cL_law 574 = .ok (.iadd, 1) := by decide +kernel
theorem dL_law_575 : decode cL_law 575 = .ok (.iaload, 1) := by decide +kernel
theorem dL_law_576 : decode cL_law 576 = .ok (.invokevirtual 56, 3) := by decide +kernel
theorem dL_law_579 : decode cL_law 579 = .ok (.if_icmp .eq 1065, 3) := by decide +kernel
set_option maxRecDepth 20000 in
theorem gq_X11_town : GoodIn lw_tbl (wsV RL 53 RX11 yX11_town wsX11_town) := goodIn_q _ [(3, 60), (3, 61), (3, 62), (1, 1), (3, 63), (2, 162), (2, 159), (2, 161), (2, 163), (2, 8), (2, 160), (1, 129), (1, 164), (3, 27), (3, 29), (0, 3), (1, 1), (3, 30), (3, 13), (3, 14), (3, 15), (3, 31), (3, 32), (3, 33), (1, 12), (3, 34), (2, 148), (2, 199), (2, 201), (0, 0), (2, 202), (2, 167), (2, 166), (3, 39), (3, 40), (3, 41), (1, 5), (3, 42), (1, 195), (1, 196), (2, 149), (2, 146), (3, 43), (3, 45), (0, 4), (3, 46), (1, 193), (1, 194), (3, 47), (3, 48), (3, 49), (3, 50), (2, 145), (3, 51), (3, 53), (0, 5), (3, 54), (1, 191), (1, 192), (3, 55), (3, 56), (3, 57), (3, 64), (3, 65), (3, 66), (3, 67), (1, 145), (3, 68), (3, 4), (3, 3), (1, 15), (1, 149), (1, 151), (1, 156), (1, 107), (1, 163), (1, 166), (1, 117), (1, 122), (1, 127), (2, 169), (2, 171), (2, 173), (2, 175), (2, 177), (2, 179), (2, 181), (2, 183), (2, 185), (2, 187), (2, 189), (2, 9), (2, 11), (1, 130), (1, 132), (1, 134), (1, 136), (1, 138), (1, 140), (1, 168), (1, 170), (1, 172), (1, 174), (1, 176), (1, 178), (1, 180), (1, 182), (2, 151), (2, 153), (1, 197), (1, 199), (1, 201), (1, 203), (1, 205), (1, 207)] (by decide +kernel) (by decide +kernel)
set_option maxRecDepth 20000 in
theorem gq_X12_town : GoodIn lw_tbl (wsV RL 56 RX12 yX12_town wsX12_town) := goodIn_q _ [(6, 29), (6, 30), (6, 31), (1, 13), (6, 32), (5, 60), (5, 49), (5, 61), (5, 52), (5, 50), (5, 62), (5, 51), (5, 63), (5, 53), (5, 64), (5, 54), (5, 55), (5, 56), (5, 58), (5, 66), (6, 2), (6, 4), (0, 31), (1, 13), (6, 5), (5, 47), (5, 235), (5, 236), (5, 237), (5, 187), (5, 188), (5, 189), (5, 190), (5, 192), (0, 26), (5, 193), (5, 41), (5, 42), (6, 10), (6, 12), (0, 32), (6, 13), (5, 59), (6, 14), (6, 16), (0, 33), (6, 17), (5, 48), (6, 18), (6, 20), (0, 34), (6, 21), (6, 22), (6, 24), (0, 35), (6, 25), (6, 26), (6, 27), (6, 28), (5, 87), (5, 89), (5, 91), (5, 93), (5, 95), (5, 97), (5, 99), (5, 101), (5, 103), (5, 105), (5, 107), (5, 109), (5, 111), (5, 113), (5, 115), (5, 117), (5, 119), (5, 121), (5, 123), (5, 125), (5, 127), (5, 129), (5, 131), (5, 133), (5, 135), (5, 137), (5, 139), (5, 141), (5, 143), (5, 145), (5, 147), (5, 149), (5, 151), (5, 153), (5, 155), (5, 157), (5, 159), (5, 161), (5, 163), (5, 165), (5, 167), (5, 169), (5, 171), (5, 173), (5, 175), (5, 177)] (by decide +kernel) (by decide +kernel)
theorem dL_law_584 : decode cL_law 584 = .ok (.aload_n 1, 1) := by decide +kernel
theorem dL_law_585 : decode cL_law 585 = .ok (.aload_n 0, 1) := by decide +kernel
theorem dL_law_586 : decode cL_law 586 = .ok (.iload_n 3, 1) := by decide +kernel
theorem dL_law_587 : decode cL_law 587 = .ok (.iconst 1, 1) := by decide +kernel
theorem dL_law_588 : decode cL_law 588 = .ok (.iadd, 1) := by decide +kernel
theorem dL_law_589 : decode cL_law 589 = .ok (.iaload, 1) := by decide +kernel
theorem dL_law_590 : decode cL_law 590 = .ok (.aload_n 0, 1) := by decide +kernel
theorem dL_law_591 : decode cL_law 591 = .ok (.iload_n 3, 1) := by decide +kernel
theorem dL_law_592 : decode cL_law 592 = .ok (.iconst 2, 1) := by decide +kernel
theorem dL_law_593 : decode cL_law 593 = .ok (.iadd, 1) := by decide +kernel
theorem dL_law_594 : decode cL_law 594 = .ok (.iaload, 1) := by decide +kernel
theorem dL_law_595 : decode cL_law 595 = .ok (.invokevirtual 57, 3) := by decide +kernel
theorem dL_law_598 : decode cL_law 598 = .ok (.aload_n 2, 1) := by decide +kernel
theorem dL_law_599 : decode cL_law 599 = .ok (.aload_n 0, 1) := by decide +kernel
theorem dL_law_600 : decode cL_law 600 = .ok (.iload_n 3, 1) := by decide +kernel
theorem dL_law_601 : decode cL_law 601 = .ok (.iconst 1, 1) := by decide +kernel
theorem dL_law_602 : decode cL_law 602 = .ok (.iadd, 1) := by decide +kernel
theorem dL_law_603 : decode cL_law 603 = .ok (.iaload, 1) := by decide +kernel
theorem dL_law_604 : decode cL_law 604 = .ok (.aload_n 0, 1) := by decide +kernel
theorem dL_law_605 : decode cL_law 605 = .ok (.iload_n 3, 1) := by decide +kernel
theorem dL_law_606 : decode cL_law 606 = .ok (.iconst 2, 1) := by decide +kernel
theorem dL_law_607 : decode cL_law 607 = .ok (.iadd, 1) := by decide +kernel
theorem dL_law_608 : decode cL_law 608 = .ok (.iaload, 1) := by decide +kernel
theorem dL_law_609 : decode cL_law 609 = .ok (.invokevirtual 60, 3) := by decide +kernel
theorem dL_law_612 : decode cL_law 612 = .ok (.if_icmp .eq 1032, 3) := by decide +kernel
set_option maxRecDepth 20000 in
theorem gq_X11_bearer : GoodIn lw_tbl (wsV RL 57 RX11 yX11_bearer wsX11_bearer) := goodIn_q _ [(3, 69), (3, 70), (3, 71), (1, 1), (3, 72), (2, 161), (2, 168), (3, 73), (3, 74), (3, 75), (1, 2), (3, 76), (1, 160), (3, 77), (3, 78), (3, 79), (3, 80), (1, 143), (1, 152), (1, 106), (1, 116), (3, 81), (3, 82), (3, 83), (3, 84), (1, 165), (1, 148), (1, 150), (3, 86), (1, 1), (3, 87), (3, 88), (3, 89), (1, 16), (3, 90), (3, 91), (3, 92), (3, 93), (3, 94), (3, 96), (0, 6), (3, 97), (1, 126), (1, 111), (1, 64), (1, 79), (2, 169), (2, 171), (2, 173), (2, 175), (2, 177), (2, 179), (2, 181), (2, 183), (2, 185), (2, 187), (2, 189), (1, 168), (1, 170), (1, 172), (1, 174), (1, 176), (1, 178), (1, 180), (1, 182), (1, 130), (1, 132), (1, 134), (1, 136), (1, 138), (1, 140), (1, 81), (1, 83), (1, 85), (1, 87), (1, 89), (1, 91), (1, 93), (1, 95), (1, 97), (1, 99)] (by decide +kernel) (by decide +kernel)
set_option maxRecDepth 20000 in
theorem gq_X12_bearer : GoodIn lw_tbl (wsV RL 60 RX12 yX12_bearer wsX12_bearer) := goodIn_q _ [(6, 33), (6, 34), (6, 35), (1, 13), (6, 36), (6, 37), (6, 39), (0, 36), (1, 13), (6, 40), (5, 49), (5, 187), (5, 188), (5, 189), (6, 41), (6, 43), (0, 37), (6, 44), (5, 56), (5, 50), (5, 51), (6, 45), (6, 47), (0, 38), (6, 48), (5, 57), (6, 49), (6, 51), (0, 39), (6, 52), (6, 53), (6, 55), (0, 40), (6, 56), (5, 52), (5, 53), (5, 54), (6, 57), (6, 58), (6, 59), (6, 60), (6, 61), (6, 62), (5, 210), (5, 212), (0, 30), (5, 213), (5, 43), (5, 87), (5, 89), (5, 91), (5, 93), (5, 95), (5, 97), (5, 99), (5, 101), (5, 103), (5, 105), (5, 107), (5, 109), (5, 111), (5, 113), (5, 115), (5, 117), (5, 119), (5, 121), (5, 123), (5, 125), (5, 127), (5, 129), (5, 131), (5, 133), (5, 135), (5, 137), (5, 139), (5, 141), (5, 143), (5, 145), (5, 147), (5, 149), (5, 151), (5, 153), (5, 155), (5, 157), (5, 159), (5, 161), (5, 163), (5, 165), (5, 167), (5, 169), (5, 171), (5, 173), (5, 175), (5, 177)] (by decide +kernel) (by decide +kernel)
theorem dL_law_617 : decode cL_law 617 = .ok (.aload_n 1, 1) := by decide +kernel
theorem dL_law_618 : decode cL_law 618 = .ok (.aload_n 0, 1) := by decide +kernel
theorem dL_law_619 : decode cL_law 619 = .ok (.iload_n 3, 1) := by decide +kernel
theorem dL_law_620 : decode cL_law 620 = .ok (.iconst 1, 1) := by decide +kernel
theorem dL_law_621 : decode cL_law 621 = .ok (.iadd, 1) := by decide +kernel
theorem dL_law_622 : decode cL_law 622 = .ok (.iaload, 1) := by decide +kernel
theorem dL_law_623 : decode cL_law 623 = .ok (.aload_n 0, 1) := by decide +kernel
theorem dL_law_624 : decode cL_law 624 = .ok (.iload_n 3, 1) := by decide +kernel
theorem dL_law_625 : decode cL_law 625 = .ok (.iconst 2, 1) := by decide +kernel
theorem dL_law_626 : decode cL_law 626 = .ok (.iadd, 1) := by decide +kernel
theorem dL_law_627 : decode cL_law 627 = .ok (.iaload, 1) := by decide +kernel
theorem dL_law_628 : decode cL_law 628 = .ok (.invokevirtual 61, 3) := by decide +kernel
theorem dL_law_631 : decode cL_law 631 = .ok (.aload_n 2, 1) := by decide +kernel
theorem dL_law_632 : decode cL_law 632 = .ok (.aload_n 0, 1) := by decide +kernel
theorem dL_law_633 : decode cL_law 633 = .ok (.iload_n 3, 1) := by decide +kernel
theorem dL_law_634 : decode cL_law 634 = .ok (.iconst 1, 1) := by decide +kernel
theorem dL_law_635 : decode cL_law 635 = .ok (.iadd, 1) := by decide +kernel
theorem dL_law_636 : decode cL_law 636 = .ok (.iaload, 1) := by decide +kernel
theorem dL_law_637 : decode cL_law 637 = .ok (.aload_n 0, 1) := by decide +kernel
theorem dL_law_638 : decode cL_law 638 = .ok (.iload_n 3, 1) := by decide +kernel
theorem dL_law_639 : decode cL_law 639 = .ok (.iconst 2, 1) := by decide +kernel
theorem dL_law_640 : decode cL_law 640 = .ok (.iadd, 1) := by decide +kernel
theorem dL_law_641 : decode cL_law 641 = .ok (.iaload, 1) := by decide +kernel
theorem dL_law_642 : decode cL_law 642 = .ok (.invokevirtual 64, 3) := by decide +kernel
theorem dL_law_645 : decode cL_law 645 = .ok (.if_icmp .eq 999, 3) := by decide +kernel
set_option maxRecDepth 20000 in
theorem gq_X11_mark : GoodIn lw_tbl (wsV RL 61 RX11 yX11_mark wsX11_mark) := goodIn_q _ [(3, 98), (3, 99), (3, 100), (1, 1), (3, 101), (2, 161), (1, 147), (3, 73), (3, 74), (3, 75), (1, 2), (3, 76), (1, 160), (3, 102), (3, 103), (1, 1), (3, 104), (2, 199), (2, 201), (0, 0), (2, 202), (2, 167), (2, 166), (3, 105), (3, 106), (3, 107), (3, 108), (3, 109), (3, 110), (3, 111), (1, 152), (1, 116), (1, 143), (3, 81), (3, 82), (3, 83), (3, 84), (1, 165), (1, 148), (1, 150), (3, 86), (3, 87), (3, 113), (3, 114), (3, 115), (3, 116), (1, 126), (1, 111), (1, 55), (1, 79), (3, 117), (3, 118), (3, 119), (3, 120), (1, 64), (1, 69), (2, 169), (2, 171), (2, 173), (2, 175), (2, 177), (2, 179), (2, 181), (2, 183), (2, 185), (2, 187), (2, 189), (1, 168), (1, 170), (1, 172), (1, 174), (1, 176), (1, 178), (1, 180), (1, 182), (1, 130), (1, 132), (1, 134), (1, 136), (1, 138), (1, 140), (1, 81), (1, 83), (1, 85), (1, 87), (1, 89), (1, 91), (1, 93), (1, 95), (1, 97), (1, 99)] (by decide +kernel) (by decide +kernel)
set_option maxRecDepth 20000 in
theorem gq_X12_mark : GoodIn lw_tbl (wsV RL 64 RX12 yX12_mark wsX12_mark) := goodIn_q _ [(6, 63), (6, 64), (6, 65), (1, 13), (6, 66), (5, 56), (6, 37), (6, 39), (0, 36), (1, 13), (6, 40), (5, 49), (5, 187), (5, 188), (5, 189), (6, 67), (6, 69), (0, 41), (6, 70), (5, 50), (5, 190), (5, 192), (0, 26), (5, 193), (5, 41), (5, 42), (6, 45), (6, 47), (0, 38), (6, 48), (5, 57), (6, 49), (6, 51), (0, 39), (6, 52), (6, 71), (6, 73), (0, 42), (6, 74), (6, 75), (6, 77), (0, 43), (6, 78), (6, 53), (6, 55), (0, 40), (6, 56), (5, 52), (5, 53), (5, 54), (6, 57), (6, 58), (6, 59), (5, 87), (5, 89), (5, 91), (5, 93), (5, 95), (5, 97), (5, 99), (5, 101), (5, 103), (5, 105), (5, 107), (5, 109), (5, 111), (5, 113), (5, 115), (5, 117), (5, 119), (5, 121), (5, 123), (5, 125), (5, 127), (5, 129), (5, 131), (5, 133), (5, 135), (5, 137), (5, 139), (5, 141), (5, 143), (5, 145), (5, 147), (5, 149), (5, 151), (5, 153), (5, 155), (5, 157), (5, 159), (5, 161), (5, 163), (5, 165), (5, 167), (5, 169), (5, 171), (5, 173), (5, 175), (5, 177)] (by decide +kernel) (by decide +kernel)
theorem dL_law_650 : decode cL_law 650 = .ok (.aload_n 1, 1) := by decide +kernel
theorem dL_law_651 : decode cL_law 651 = .ok (.aload_n 0, 1) := by decide +kernel
theorem dL_law_652 : decode cL_law 652 = .ok (.iload_n 3, 1) := by decide +kernel
theorem dL_law_653 : decode cL_law 653 = .ok (.iconst 1, 1) := by decide +kernel
theorem dL_law_654 : decode cL_law 654 = .ok (.iadd, 1) := by decide +kernel
theorem dL_law_655 : decode cL_law 655 = .ok (.iaload, 1) := by decide +kernel
theorem dL_law_656 : decode cL_law 656 = .ok (.aload_n 0, 1) := by decide +kernel
theorem dL_law_657 : decode cL_law 657 = .ok (.iload_n 3, 1) := by decide +kernel
theorem dL_law_658 : decode cL_law 658 = .ok (.iconst 2, 1) := by decide +kernel
theorem dL_law_659 : decode cL_law 659 = .ok (.iadd, 1) := by decide +kernel
theorem dL_law_660 : decode cL_law 660 = .ok (.iaload, 1) := by decide +kernel
theorem dL_law_661 : decode cL_law 661 = .ok (.invokevirtual 65, 3) := by decide +kernel
theorem dL_law_664 : decode cL_law 664 = .ok (.aload_n 2, 1) := by decide +kernel
theorem dL_law_665 : decode cL_law 665 = .ok (.aload_n 0, 1) := by decide +kernel
theorem dL_law_666 : decode cL_law 666 = .ok (.iload_n 3, 1) := by decide +kernel
theorem dL_law_667 : decode cL_law 667 = .ok (.iconst 1, 1) := by decide +kernel
theorem dL_law_668 : decode cL_law 668 = .ok (.iadd, 1) := by decide +kernel
theorem dL_law_669 : decode cL_law 669 = .ok (.iaload, 1) := by decide +kernel
theorem dL_law_670 : decode cL_law 670 = .ok (.aload_n 0, 1) := by decide +kernel
theorem dL_law_671 : decode cL_law 671 = .ok (.iload_n 3, 1) := by decide +kernel
theorem dL_law_672 : decode cL_law 672 = .ok (.iconst 2, 1) := by decide +kernel
theorem dL_law_673 : decode cL_law 673 = .ok (.iadd, 1) := by decide +kernel
theorem dL_law_674 : decode cL_law 674 = .ok (.iaload, 1) := by decide +kernel
theorem dL_law_675 : decode cL_law 675 = .ok (.invokevirtual 68, 3) := by decide +kernel
theorem dL_law_678 : decode cL_law 678 = .ok (.if_icmp .eq 966, 3) := by decide +kernel
set_option maxRecDepth 20000 in
theorem gq_X11_purse : GoodIn lw_tbl (wsV RL 65 RX11 yX11_purse wsX11_purse) := goodIn_q _ [(3, 121), (3, 122), (3, 123), (1, 1), (3, 124), (2, 161), (1, 157), (1, 108), (3, 73), (3, 74), (3, 75), (1, 2), (3, 76), (1, 160), (2, 169), (2, 171), (2, 173), (2, 175), (2, 177), (2, 179), (2, 181), (2, 183), (2, 185), (2, 187), (2, 189), (1, 168), (1, 170), (1, 172), (1, 174), (1, 176), (1, 178), (1, 180), (1, 182), (1, 130), (1, 132), (1, 134), (1, 136), (1, 138), (1, 140)] (by decide +kernel) (by decide +kernel)
set_option maxRecDepth 20000 in
theorem gq_X12_purse : GoodIn lw_tbl (wsV RL 68 RX12 yX12_purse wsX12_purse) := goodIn_q _ [(6, 79), (6, 80), (6, 81), (1, 13), (6, 82), (5, 51), (6, 37), (6, 39), (0, 36), (1, 13), (6, 40), (5, 49), (5, 187), (5, 188), (5, 189), (5, 87), (5, 89), (5, 91), (5, 93), (5, 95), (5, 97), (5, 99), (5, 101), (5, 103), (5, 105), (5, 107), (5, 109), (5, 111), (5, 113), (5, 115), (5, 117), (5, 119), (5, 121), (5, 123), (5, 125), (5, 127), (5, 129), (5, 131), (5, 133), (5, 135), (5, 137), (5, 139), (5, 141), (5, 143), (5, 145), (5, 147), (5, 149), (5, 151), (5, 153), (5, 155), (5, 157), (5, 159), (5, 161), (5, 163), (5, 165), (5, 167), (5, 169), (5, 171), (5, 173), (5, 175), (5, 177)] (by decide +kernel) (by decide +kernel)
theorem dL_law_683 : decode cL_law 683 = .ok (.aload_n 1, 1) := by decide +kernel
theorem dL_law_684 : decode cL_law 684 = .ok (.aload_n 0, 1) := by decide +kernel
theorem dL_law_685 : decode cL_law 685 = .ok (.iload_n 3, 1) := by decide +kernel
theorem dL_law_686 : decode cL_law 686 = .ok (.iconst 1, 1) := by decide +kernel
theorem dL_law_687 : decode cL_law 687 = .ok (.iadd, 1) := by decide +kernel
theorem dL_law_688 : decode cL_law 688 = .ok (.iaload, 1) := by decide +kernel
theorem dL_law_689 : decode cL_law 689 = .ok (.aload_n 0, 1) := by decide +kernel
theorem dL_law_690 : decode cL_law 690 = .ok (.iload_n 3, 1) := by decide +kernel
theorem dL_law_691 : decode cL_law 691 = .ok (.iconst 2, 1) := by decide +kernel
theorem dL_law_692 : decode cL_law 692 = .ok (.iadd, 1) := by decide +kernel
theorem dL_law_693 : decode cL_law 693 = .ok (.iaload, 1) := by decide +kernel
theorem dL_law_694 : decode cL_law 694 = .ok (.invokevirtual 69, 3) := by decide +kernel
theorem dL_law_697 : decode cL_law 697 = .ok (.aload_n 2, 1) := by decide +kernel
theorem dL_law_698 : decode cL_law 698 = .ok (.aload_n 0, 1) := by decide +kernel
theorem dL_law_699 : decode cL_law 699 = .ok (.iload_n 3, 1) := by decide +kernel
theorem dL_law_700 : decode cL_law 700 = .ok (.iconst 1, 1) := by decide +kernel
theorem dL_law_701 : decode cL_law 701 = .ok (.iadd, 1) := by decide +kernel
theorem dL_law_702 : decode cL_law 702 = .ok (.iaload, 1) := by decide +kernel
theorem dL_law_703 : decode cL_law 703 = .ok (.aload_n 0, 1) := by decide +kernel
theorem dL_law_704 : decode cL_law 704 = .ok (.iload_n 3, 1) := by decide +kernel
theorem dL_law_705 : decode cL_law 705 = .ok (.iconst 2, 1) := by decide +kernel
theorem dL_law_706 : decode cL_law 706 = .ok (.iadd, 1) := by decide +kernel
theorem dL_law_707 : decode cL_law 707 = .ok (.iaload, 1) := by decide +kernel
theorem dL_law_708 : decode cL_law 708 = .ok (.invokevirtual 72, 3) := by decide +kernel
theorem dL_law_711 : decode cL_law 711 = .ok (.if_icmp .eq 933, 3) := by decide +kernel
set_option maxRecDepth 20000 in
theorem gq_X11_snow : GoodIn lw_tbl (wsV RL 69 RX11 yX11_snow wsX11_snow) := goodIn_q _ [(3, 125), (3, 126), (3, 127), (1, 1), (3, 128), (2, 161), (1, 167), (1, 157), (1, 118), (2, 169), (2, 171), (2, 173), (2, 175), (2, 177), (2, 179), (2, 181), (2, 183), (2, 185), (2, 187), (2, 189), (1, 168), (1, 170), (1, 172), (1, 174), (1, 176), (1, 178), (1, 180), (1, 182), (1, 130), (1, 132), (1, 134), (1, 136), (1, 138), (1, 140)] (by decide +kernel) (by decide +kernel)
set_option maxRecDepth 20000 in
theorem gq_X12_snow : GoodIn lw_tbl (wsV RL 72 RX12 yX12_snow wsX12_snow) := goodIn_q _ [(6, 83), (6, 84), (6, 85), (1, 13), (6, 86), (5, 52), (5, 54), (5, 187), (5, 188), (1, 13), (5, 189), (5, 87), (5, 89), (5, 91), (5, 93), (5, 95), (5, 97), (5, 99), (5, 101), (5, 103), (5, 105), (5, 107), (5, 109), (5, 111), (5, 113), (5, 115), (5, 117), (5, 119), (5, 121), (5, 123), (5, 125), (5, 127), (5, 129), (5, 131), (5, 133), (5, 135), (5, 137), (5, 139), (5, 141), (5, 143), (5, 145), (5, 147), (5, 149), (5, 151), (5, 153), (5, 155), (5, 157), (5, 159), (5, 161), (5, 163), (5, 165), (5, 167), (5, 169), (5, 171), (5, 173), (5, 175), (5, 177)] (by decide +kernel) (by decide +kernel)
theorem dL_law_716 : decode cL_law 716 = .ok (.aload_n 1, 1) := by decide +kernel
theorem dL_law_717 : decode cL_law 717 = .ok (.aload_n 0, 1) := by decide +kernel
theorem dL_law_718 : decode cL_law 718 = .ok (.iload_n 3, 1) := by decide +kernel
theorem dL_law_719 : decode cL_law 719 = .ok (.iconst 1, 1) := by decide +kernel
theorem dL_law_720 : decode cL_law 720 = .ok (.iadd, 1) := by decide +kernel
theorem dL_law_721 : decode cL_law 721 = .ok (.iaload, 1) := by decide +kernel
theorem dL_law_722 : decode cL_law 722 = .ok (.aload_n 0, 1) := by decide +kernel
theorem dL_law_723 : decode cL_law 723 = .ok (.iload_n 3, 1) := by decide +kernel
theorem dL_law_724 : decode cL_law 724 = .ok (.iconst 2, 1) := by decide +kernel
theorem dL_law_725 : decode cL_law 725 = .ok (.iadd, 1) := by decide +kernel
theorem dL_law_726 : decode cL_law 726 = .ok (.iaload, 1) := by decide +kernel
theorem dL_law_727 : decode cL_law 727 = .ok (.invokevirtual 73, 3) := by decide +kernel
theorem dL_law_730 : decode cL_law 730 = .ok (.aload_n 2, 1) := by decide +kernel
theorem dL_law_731 : decode cL_law 731 = .ok (.aload_n 0, 1) := by decide +kernel
theorem dL_law_732 : decode cL_law 732 = .ok (.iload_n 3, 1) := by decide +kernel
theorem dL_law_733 : decode cL_law 733 = .ok (.iconst 1, 1) := by decide +kernel
theorem dL_law_734 : decode cL_law 734 = .ok (.iadd, 1) := by decide +kernel
theorem dL_law_735 : decode cL_law 735 = .ok (.iaload, 1) := by decide +kernel
theorem dL_law_736 : decode cL_law 736 = .ok (.aload_n 0, 1) := by decide +kernel
theorem dL_law_737 : decode cL_law 737 = .ok (.iload_n 3, 1) := by decide +kernel
theorem dL_law_738 : decode cL_law 738 = .ok (.iconst 2, 1) := by decide +kernel
theorem dL_law_739 : decode cL_law 739 = .ok (.iadd, 1) := by decide +kernel
theorem dL_law_740 : decode cL_law 740 = .ok (.iaload, 1) := by decide +kernel
theorem dL_law_741 : decode cL_law 741 = .ok (.invokevirtual 76, 3) := by decide +kernel
theorem dL_law_744 : decode cL_law 744 = .ok (.if_icmp .eq 900, 3) := by decide +kernel
set_option maxRecDepth 20000 in
theorem gq_X11_asks : GoodIn lw_tbl (wsV RL 73 RX11 yX11_asks wsX11_asks) := goodIn_q _ [(3, 129), (3, 130), (3, 131), (1, 1), (3, 132), (2, 161), (1, 147), (3, 73), (3, 74), (3, 75), (1, 2), (3, 76), (1, 160), (3, 105), (3, 106), (1, 1), (3, 107), (2, 169), (2, 171), (2, 173), (2, 175), (2, 177), (2, 179), (2, 181), (2, 183), (2, 185), (2, 187), (2, 189), (1, 168), (1, 170), (1, 172), (1, 174), (1, 176), (1, 178), (1, 180), (1, 182)] (by decide +kernel) (by decide +kernel)
set_option maxRecDepth 20000 in
theorem gq_X12_asks : GoodIn lw_tbl (wsV RL 76 RX12 yX12_asks wsX12_asks) := goodIn_q _ [(6, 87), (6, 88), (6, 89), (1, 13), (6, 90), (6, 37), (6, 39), (0, 36), (1, 13), (6, 40), (5, 49), (5, 187), (5, 188), (5, 189), (6, 71), (6, 73), (0, 42), (6, 74), (5, 50), (5, 87), (5, 89), (5, 91), (5, 93), (5, 95), (5, 97), (5, 99), (5, 101), (5, 103), (5, 105), (5, 107), (5, 109), (5, 111), (5, 113), (5, 115), (5, 117), (5, 119), (5, 121), (5, 123), (5, 125), (5, 127), (5, 129), (5, 131), (5, 133), (5, 135), (5, 137), (5, 139), (5, 141), (5, 143), (5, 145), (5, 147), (5, 149), (5, 151), (5, 153), (5, 155), (5, 157), (5, 159), (5, 161), (5, 163), (5, 165), (5, 167), (5, 169), (5, 171), (5, 173), (5, 175), (5, 177)] (by decide +kernel) (by decide +kernel)
theorem dL_law_749 : decode cL_law 749 = .ok (.aload_n 1, 1) := by decide +kernel
theorem dL_law_750 : decode cL_law 750 = .ok (.aload_n 0, 1) := by decide +kernel
theorem dL_law_751 : decode cL_law 751 = .ok (.iload_n 3, 1) := by decide +kernel
theorem dL_law_752 : decode cL_law 752 = .ok (.iconst 1, 1) := by decide +kernel
theorem dL_law_753 : decode cL_law 753 = .ok (.iadd, 1) := by decide +kernel
theorem dL_law_754 : decode cL_law 754 = .ok (.iaload, 1) := by decide +kernel
theorem dL_law_755 : decode cL_law 755 = .ok (.invokevirtual 77, 3) := by decide +kernel
theorem dL_law_758 : decode cL_law 758 = .ok (.aload_n 2, 1) := by decide +kernel
theorem dL_law_759 : decode cL_law 759 = .ok (.aload_n 0, 1) := by decide +kernel
theorem dL_law_760 : decode cL_law 760 = .ok (.iload_n 3, 1) := by decide +kernel
theorem dL_law_761 : decode cL_law 761 = .ok (.iconst 1, 1) := by decide +kernel
theorem dL_law_762 : decode cL_law 762 = .ok (.iadd, 1) := by decide +kernel
theorem dL_law_763 : decode cL_law 763 = .ok (.iaload, 1) := by decide +kernel
theorem dL_law_764 : decode cL_law 764 = .ok (.invokevirtual 80, 3) := by decide +kernel
theorem dL_law_767 : decode cL_law 767 = .ok (.if_icmp .eq 877, 3) := by decide +kernel
set_option maxRecDepth 20000 in
theorem gq_X11_beside : GoodIn lw_tbl (wsV RL 77 RX11 yX11_beside wsX11_beside) := goodIn_q _ [(3, 133), (3, 134), (3, 135), (1, 1), (3, 136), (2, 161), (1, 157), (1, 118), (3, 73), (3, 74), (3, 75), (1, 2), (3, 76), (1, 160), (3, 137), (3, 82), (3, 83), (3, 84), (1, 165), (1, 148), (1, 150), (3, 86), (1, 1), (3, 87), (2, 169), (2, 171), (2, 173), (2, 175), (2, 177), (2, 179), (2, 181), (2, 183), (2, 185), (2, 187), (2, 189), (1, 168), (1, 170), (1, 172), (1, 174), (1, 176), (1, 178), (1, 180), (1, 182), (1, 130), (1, 132), (1, 134), (1, 136), (1, 138), (1, 140)] (by decide +kernel) (by decide +kernel)
set_option maxRecDepth 20000 in
theorem gq_X12_beside : GoodIn lw_tbl (wsV RL 80 RX12 yX12_beside wsX12_beside) := goodIn_q _ [(6, 91), (6, 92), (6, 93), (1, 13), (6, 94), (6, 37), (6, 39), (0, 36), (1, 13), (6, 40), (5, 49), (5, 187), (5, 188), (5, 189), (6, 53), (6, 55), (0, 40), (6, 56), (5, 52), (5, 53), (5, 54), (6, 57), (6, 58), (6, 59), (5, 87), (5, 89), (5, 91), (5, 93), (5, 95), (5, 97), (5, 99), (5, 101), (5, 103), (5, 105), (5, 107), (5, 109), (5, 111), (5, 113), (5, 115), (5, 117), (5, 119), (5, 121), (5, 123), (5, 125), (5, 127), (5, 129), (5, 131), (5, 133), (5, 135), (5, 137), (5, 139), (5, 141), (5, 143), (5, 145), (5, 147), (5, 149), (5, 151), (5, 153), (5, 155), (5, 157), (5, 159), (5, 161), (5, 163), (5, 165), (5, 167), (5, 169), (5, 171), (5, 173), (5, 175), (5, 177)] (by decide +kernel) (by decide +kernel)
theorem dL_law_772 : decode cL_law 772 = .ok (.aload_n 1, 1) := by decide +kernel
theorem dL_law_773 : decode cL_law 773 = .ok (.aload_n 0, 1) := by decide +kernel
theorem dL_law_774 : decode cL_law 774 = .ok (.iload_n 3, 1) := by decide +kernel
theorem dL_law_775 : decode cL_law 775 = .ok (.iconst 1, 1) := by decide +kernel
theorem dL_law_776 : decode cL_law 776 = .ok (.iadd, 1) := by decide +kernel
theorem dL_law_777 : decode cL_law 777 = .ok (.iaload, 1) := by decide +kernel
theorem dL_law_778 : decode cL_law 778 = .ok (.aload_n 0, 1) := by decide +kernel
theorem dL_law_779 : decode cL_law 779 = .ok (.iload_n 3, 1) := by decide +kernel
theorem dL_law_780 : decode cL_law 780 = .ok (.iconst 2, 1) := by decide +kernel
theorem dL_law_781 : decode cL_law 781 = .ok (.iadd, 1) := by decide +kernel
theorem dL_law_782 : decode cL_law 782 = .ok (.iaload, 1) := by decide +kernel
theorem dL_law_783 : decode cL_law 783 = .ok (.aload_n 0, 1) := by decide +kernel
theorem dL_law_784 : decode cL_law 784 = .ok (.iload_n 3, 1) := by decide +kernel
theorem dL_law_785 : decode cL_law 785 = .ok (.iconst 3, 1) := by decide +kernel
theorem dL_law_786 : decode cL_law 786 = .ok (.iadd, 1) := by decide +kernel
theorem dL_law_787 : decode cL_law 787 = .ok (.iaload, 1) := by decide +kernel
theorem dL_law_788 : decode cL_law 788 = .ok (.aload_n 0, 1) := by decide +kernel
theorem dL_law_789 : decode cL_law 789 = .ok (.iload_n 3, 1) := by decide +kernel
theorem dL_law_790 : decode cL_law 790 = .ok (.iconst 4, 1) := by decide +kernel
theorem dL_law_791 : decode cL_law 791 = .ok (.iadd, 1) := by decide +kernel
theorem dL_law_792 : decode cL_law 792 = .ok (.iaload, 1) := by decide +kernel
theorem dL_law_793 : decode cL_law 793 = .ok (.invokevirtual 81, 3) := by decide +kernel
theorem dL_law_796 : decode cL_law 796 = .ok (.aload_n 2, 1) := by decide +kernel
theorem dL_law_797 : decode cL_law 797 = .ok (.aload_n 0, 1) := by decide +kernel
theorem dL_law_798 : decode cL_law 798 = .ok (.iload_n 3, 1) := by decide +kernel
theorem dL_law_799 : decode cL_law 799 = .ok (.iconst 1, 1) := by decide +kernel
theorem dL_law_800 : decode cL_law 800 = .ok (.iadd, 1) := by decide +kernel
theorem dL_law_801 : decode cL_law 801 = .ok (.iaload, 1) := by decide +kernel
theorem dL_law_802 : decode cL_law 802 = .ok (.aload_n 0, 1) := by decide +kernel
theorem dL_law_803 : decode cL_law 803 = .ok (.iload_n 3, 1) := by decide +kernel
theorem dL_law_804 : decode cL_law 804 = .ok (.iconst 2, 1) := by decide +kernel
theorem dL_law_805 : decode cL_law 805 = .ok (.iadd, 1) := by decide +kernel
theorem dL_law_806 : decode cL_law 806 = .ok (.iaload, 1) := by decide +kernel
theorem dL_law_807 : decode cL_law 807 = .ok (.aload_n 0, 1) := by decide +kernel
theorem dL_law_808 : decode cL_law 808 = .ok (.iload_n 3, 1) := by decide +kernel
theorem dL_law_809 : decode cL_law 809 = .ok (.iconst 3, 1) := by decide +kernel
theorem dL_law_810 : decode cL_law 810 = .ok (.iadd, 1) := by decide +kernel
theorem dL_law_811 : decode cL_law 811 = .ok (.iaload, 1) := by decide +kernel
theorem dL_law_812 : decode cL_law 812 = .ok (.aload_n 0, 1) := by decide +kernel
theorem dL_law_813 : decode cL_law 813 = .ok (.iload_n 3, 1) := by decide +kernel
theorem dL_law_814 : decode cL_law 814 = .ok (.iconst 4, 1) := by decide +kernel
theorem dL_law_815 : decode cL_law 815 = .ok (.iadd, 1) := by decide +kernel
theorem dL_law_816 : decode cL_law 816 = .ok (.iaload, 1) := by decide +kernel
theorem dL_law_817 : decode cL_law 817 = .ok (.invokevirtual 85, 3) := by decide +kernel
theorem dL_law_820 : decode cL_law 820 = .ok (.if_icmp .eq 824, 3) := by decide +kernel
set_option maxRecDepth 20000 in
theorem gq_X11_send : GoodIn lw_tbl (wsV RL 81 RX11 yX11_send wsX11_send) := goodIn_q _ [(3, 138), (3, 139), (3, 140), (1, 1), (3, 141), (2, 161), (1, 157), (1, 128), (1, 112), (1, 124), (3, 142), (3, 144), (0, 7), (1, 1), (3, 145), (3, 73), (3, 74), (3, 75), (1, 2), (3, 76), (1, 160), (3, 146), (3, 147), (3, 148), (1, 4), (3, 149), (1, 51), (1, 52), (1, 57), (1, 58), (1, 60), (1, 62), (1, 67), (1, 71), (1, 75), (1, 77), (2, 169), (2, 171), (2, 173), (2, 175), (2, 177), (2, 179), (2, 181), (2, 183), (2, 185), (2, 187), (2, 189), (1, 168), (1, 170), (1, 172), (1, 174), (1, 176), (1, 178), (1, 180), (1, 182), (1, 130), (1, 132), (1, 134), (1, 136), (1, 138), (1, 140), (1, 81), (1, 83), (1, 85), (1, 87), (1, 89), (1, 91), (1, 93), (1, 95), (1, 97), (1, 99)] (by decide +kernel) (by decide +kernel)
set_option maxRecDepth 20000 in
theorem gq_X12_send : GoodIn lw_tbl (wsV RL 85 RX12 yX12_send wsX12_send) := goodIn_q _ [(6, 95), (6, 96), (6, 97), (1, 13), (6, 98), (5, 56), (5, 55), (6, 99), (6, 101), (0, 44), (1, 13), (6, 102), (6, 37), (6, 39), (0, 36), (6, 40), (5, 49), (5, 187), (5, 188), (5, 189), (6, 103), (6, 105), (0, 45), (6, 106), (5, 57), (5, 87), (5, 89), (5, 91), (5, 93), (5, 95), (5, 97), (5, 99), (5, 101), (5, 103), (5, 105), (5, 107), (5, 109), (5, 111), (5, 113), (5, 115), (5, 117), (5, 119), (5, 121), (5, 123), (5, 125), (5, 127), (5, 129), (5, 131), (5, 133), (5, 135), (5, 137), (5, 139), (5, 141), (5, 143), (5, 145), (5, 147), (5, 149), (5, 151), (5, 153), (5, 155), (5, 157), (5, 159), (5, 161), (5, 163), (5, 165), (5, 167), (5, 169), (5, 171), (5, 173), (5, 175), (5, 177)] (by decide +kernel) (by decide +kernel)
theorem dL_law_825 : decode cL_law 825 = .ok (.aload_n 1, 1) := by decide +kernel
theorem dL_law_826 : decode cL_law 826 = .ok (.aload_n 0, 1) := by decide +kernel
theorem dL_law_827 : decode cL_law 827 = .ok (.iload_n 3, 1) := by decide +kernel
theorem dL_law_828 : decode cL_law 828 = .ok (.iconst 1, 1) := by decide +kernel
theorem dL_law_829 : decode cL_law 829 = .ok (.iadd, 1) := by decide +kernel
theorem dL_law_830 : decode cL_law 830 = .ok (.iaload, 1) := by decide +kernel
theorem dL_law_831 : decode cL_law 831 = .ok (.aload_n 0, 1) := by decide +kernel
theorem dL_law_832 : decode cL_law 832 = .ok (.iload_n 3, 1) := by decide +kernel
theorem dL_law_833 : decode cL_law 833 = .ok (.iconst 2, 1) := by decide +kernel
theorem dL_law_834 : decode cL_law 834 = .ok (.iadd, 1) := by decide +kernel
theorem dL_law_835 : decode cL_law 835 = .ok (.iaload, 1) := by decide +kernel
theorem dL_law_836 : decode cL_law 836 = .ok (.invokevirtual 86, 3) := by decide +kernel
theorem dL_law_839 : decode cL_law 839 = .ok (.aload_n 2, 1) := by decide +kernel
theorem dL_law_840 : decode cL_law 840 = .ok (.aload_n 0, 1) := by decide +kernel
theorem dL_law_841 : decode cL_law 841 = .ok (.iload_n 3, 1) := by decide +kernel
theorem dL_law_842 : decode cL_law 842 = .ok (.iconst 1, 1) := by decide +kernel
theorem dL_law_843 : decode cL_law 843 = .ok (.iadd, 1) := by decide +kernel
theorem dL_law_844 : decode cL_law 844 = .ok (.iaload, 1) := by decide +kernel
theorem dL_law_845 : decode cL_law 845 = .ok (.aload_n 0, 1) := by decide +kernel
theorem dL_law_846 : decode cL_law 846 = .ok (.iload_n 3, 1) := by decide +kernel
theorem dL_law_847 : decode cL_law 847 = .ok (.iconst 2, 1) := by decide +kernel
theorem dL_law_848 : decode cL_law 848 = .ok (.iadd, 1) := by decide +kernel
theorem dL_law_849 : decode cL_law 849 = .ok (.iaload, 1) := by decide +kernel
theorem dL_law_850 : decode cL_law 850 = .ok (.invokevirtual 89, 3) := by decide +kernel
theorem dL_law_853 : decode cL_law 853 = .ok (.if_icmp .eq 791, 3) := by decide +kernel
set_option maxRecDepth 20000 in
theorem gq_X11_sell : GoodIn lw_tbl (wsV RL 86 RX11 yX11_sell wsX11_sell) := goodIn_q _ [(3, 150), (3, 151), (3, 152), (1, 1), (3, 153), (2, 161), (1, 157), (1, 112), (2, 163), (1, 80), (3, 73), (3, 74), (3, 75), (1, 2), (3, 76), (1, 160), (3, 154), (3, 156), (0, 8), (1, 1), (3, 157), (1, 128), (2, 199), (2, 201), (0, 0), (2, 202), (2, 167), (2, 166), (3, 158), (3, 159), (3, 160), (3, 161), (1, 79), (1, 74), (1, 152), (1, 123), (1, 64), (1, 116), (1, 55), (1, 143), (1, 106), (3, 162), (3, 163), (3, 164), (3, 165), (1, 69), (3, 106), (3, 107), (3, 81), (3, 82), (3, 83), (3, 84), (1, 165), (1, 148), (1, 150), (3, 86), (3, 87), (3, 167), (3, 168), (3, 169), (1, 4), (3, 170), (1, 57), (1, 58), (1, 60), (3, 171), (3, 172), (1, 17), (3, 173), (3, 174), (3, 175), (3, 176), (3, 177), (1, 6), (3, 178), (2, 7), (3, 179), (3, 180), (3, 181), (3, 182), (1, 154), (1, 110), (2, 6), (1, 105), (1, 224), (3, 184), (3, 4), (3, 3), (1, 15), (1, 225), (1, 63), (1, 226), (1, 227), (1, 228), (1, 68), (1, 229), (1, 73), (1, 230), (1, 121), (1, 76), (1, 54), (1, 78), (3, 183), (2, 169), (2, 171), (2, 173), (2, 175), (2, 177), (2, 179), (2, 181), (2, 183), (2, 185), (2, 187), (2, 189), (1, 168), (1, 170), (1, 172), (1, 174), (1, 176), (1, 178), (1, 180), (1, 182), (1, 130), (1, 132), (1, 134), (1, 136), (1, 138), (1, 140), (1, 81), (1, 83), (1, 85), (1, 87), (1, 89), (1, 91), (1, 93), (1, 95), (1, 97), (1, 99), (2, 9), (2, 11), (1, 231), (1, 233), (1, 235), (1, 237), (1, 239), (2, 1), (2, 3)] (by decide +kernel) (by decide +kernel)
set_option maxRecDepth 20000 in
theorem gq_X12_sell : GoodIn lw_tbl (wsV RL 89 RX12 yX12_sell wsX12_sell) := goodIn_q _ [(6, 107), (6, 108), (6, 109), (1, 13), (6, 110), (5, 58), (6, 37), (6, 39), (0, 36), (1, 13), (6, 40), (5, 49), (5, 187), (5, 188), (5, 189), (6, 111), (6, 113), (0, 46), (6, 114), (5, 56), (5, 190), (5, 192), (0, 26), (5, 193), (5, 41), (5, 42), (6, 115), (6, 117), (0, 47), (6, 118), (5, 55), (5, 50), (5, 51), (6, 49), (6, 51), (0, 39), (6, 52), (6, 45), (6, 47), (0, 38), (6, 48), (5, 57), (6, 53), (6, 55), (0, 40), (6, 56), (5, 52), (5, 53), (5, 54), (6, 57), (6, 58), (6, 59), (6, 119), (6, 121), (0, 48), (6, 122), (6, 71), (6, 73), (0, 42), (6, 74), (6, 123), (6, 125), (0, 49), (6, 126), (6, 127), (6, 129), (0, 50), (6, 130), (5, 65), (6, 103), (6, 105), (0, 45), (6, 106), (5, 87), (5, 89), (5, 91), (5, 93), (5, 95), (5, 97), (5, 99), (5, 101), (5, 103), (5, 105), (5, 107), (5, 109), (5, 111), (5, 113), (5, 115), (5, 117), (5, 119), (5, 121), (5, 123), (5, 125), (5, 127), (5, 129), (5, 131), (5, 133), (5, 135), (5, 137), (5, 139), (5, 141), (5, 143), (5, 145), (5, 147), (5, 149), (5, 151), (5, 153), (5, 155), (5, 157), (5, 159), (5, 161), (5, 163), (5, 165), (5, 167), (5, 169), (5, 171), (5, 173), (5, 175), (5, 177)] (by decide +kernel) (by decide +kernel)
theorem dL_law_858 : decode cL_law 858 = .ok (.aload_n 1, 1) := by decide +kernel
theorem dL_law_859 : decode cL_law 859 = .ok (.aload_n 0, 1) := by decide +kernel
theorem dL_law_860 : decode cL_law 860 = .ok (.iload_n 3, 1) := by decide +kernel
theorem dL_law_861 : decode cL_law 861 = .ok (.iconst 1, 1) := by decide +kernel
theorem dL_law_862 : decode cL_law 862 = .ok (.iadd, 1) := by decide +kernel
theorem dL_law_863 : decode cL_law 863 = .ok (.iaload, 1) := by decide +kernel
theorem dL_law_864 : decode cL_law 864 = .ok (.invokevirtual 90, 3) := by decide +kernel
theorem dL_law_867 : decode cL_law 867 = .ok (.aload_n 2, 1) := by decide +kernel
theorem dL_law_868 : decode cL_law 868 = .ok (.aload_n 0, 1) := by decide +kernel
theorem dL_law_869 : decode cL_law 869 = .ok (.iload_n 3, 1) := by decide +kernel
theorem dL_law_870 : decode cL_law 870 = .ok (.iconst 1, 1) := by decide +kernel
theorem dL_law_871 : decode cL_law 871 = .ok (.iadd, 1) := by decide +kernel
theorem dL_law_872 : decode cL_law 872 = .ok (.iaload, 1) := by decide +kernel
theorem dL_law_873 : decode cL_law 873 = .ok (.invokevirtual 93, 3) := by decide +kernel
theorem dL_law_876 : decode cL_law 876 = .ok (.if_icmp .eq 768, 3) := by decide +kernel
set_option maxRecDepth 20000 in
theorem gq_X11_days : GoodIn lw_tbl (wsV RL 90 RX11 yX11_days wsX11_days) := goodIn_q _ [(3, 185), (3, 186), (3, 187), (1, 1), (3, 188), (2, 161), (1, 157), (1, 124), (2, 169), (2, 171), (2, 173), (2, 175), (2, 177), (2, 179), (2, 181), (2, 183), (2, 185), (2, 187), (2, 189), (1, 168), (1, 170), (1, 172), (1, 174), (1, 176), (1, 178), (1, 180), (1, 182), (1, 130), (1, 132), (1, 134), (1, 136), (1, 138), (1, 140)] (by decide +kernel) (by decide +kernel)
set_option maxRecDepth 20000 in
theorem gq_X12_days : GoodIn lw_tbl (wsV RL 93 RX12 yX12_days wsX12_days) := goodIn_q _ [(6, 131), (6, 132), (6, 133), (1, 13), (6, 134), (5, 55), (5, 187), (5, 188), (1, 13), (5, 189), (5, 87), (5, 89), (5, 91), (5, 93), (5, 95), (5, 97), (5, 99), (5, 101), (5, 103), (5, 105), (5, 107), (5, 109), (5, 111), (5, 113), (5, 115), (5, 117), (5, 119), (5, 121), (5, 123), (5, 125), (5, 127), (5, 129), (5, 131), (5, 133), (5, 135), (5, 137), (5, 139), (5, 141), (5, 143), (5, 145), (5, 147), (5, 149), (5, 151), (5, 153), (5, 155), (5, 157), (5, 159), (5, 161), (5, 163), (5, 165), (5, 167), (5, 169), (5, 171), (5, 173), (5, 175), (5, 177)] (by decide +kernel) (by decide +kernel)
theorem dL_law_881 : decode cL_law 881 = .ok (.aload_n 1, 1) := by decide +kernel
theorem dL_law_882 : decode cL_law 882 = .ok (.aload_n 0, 1) := by decide +kernel
theorem dL_law_883 : decode cL_law 883 = .ok (.iload_n 3, 1) := by decide +kernel
theorem dL_law_884 : decode cL_law 884 = .ok (.iconst 1, 1) := by decide +kernel
theorem dL_law_885 : decode cL_law 885 = .ok (.iadd, 1) := by decide +kernel
theorem dL_law_886 : decode cL_law 886 = .ok (.iaload, 1) := by decide +kernel
theorem dL_law_887 : decode cL_law 887 = .ok (.invokevirtual 94, 3) := by decide +kernel
theorem dL_law_890 : decode cL_law 890 = .ok (.aload_n 2, 1) := by decide +kernel
theorem dL_law_891 : decode cL_law 891 = .ok (.aload_n 0, 1) := by decide +kernel
theorem dL_law_892 : decode cL_law 892 = .ok (.iload_n 3, 1) := by decide +kernel
theorem dL_law_893 : decode cL_law 893 = .ok (.iconst 1, 1) := by decide +kernel
theorem dL_law_894 : decode cL_law 894 = .ok (.iadd, 1) := by decide +kernel
theorem dL_law_895 : decode cL_law 895 = .ok (.iaload, 1) := by decide +kernel
theorem dL_law_896 : decode cL_law 896 = .ok (.invokevirtual 97, 3) := by decide +kernel
theorem dL_law_899 : decode cL_law 899 = .ok (.if_icmp .eq 745, 3) := by decide +kernel
set_option maxRecDepth 20000 in
theorem gq_X11_where : GoodIn lw_tbl (wsV RL 94 RX11 yX11_where wsX11_where) := goodIn_q _ [(3, 189), (3, 190), (3, 191), (1, 1), (3, 192), (2, 161), (1, 157), (1, 112), (1, 70), (2, 168), (1, 65), (3, 154), (3, 156), (0, 8), (1, 1), (3, 157), (1, 128), (2, 199), (2, 201), (0, 0), (2, 202), (2, 167), (2, 166), (2, 169), (2, 171), (2, 173), (2, 175), (2, 177), (2, 179), (2, 181), (2, 183), (2, 185), (2, 187), (2, 189), (1, 168), (1, 170), (1, 172), (1, 174), (1, 176), (1, 178), (1, 180), (1, 182), (1, 130), (1, 132), (1, 134), (1, 136), (1, 138), (1, 140), (1, 81), (1, 83), (1, 85), (1, 87), (1, 89), (1, 91), (1, 93), (1, 95), (1, 97), (1, 99)] (by decide +kernel) (by decide +kernel)
set_option maxRecDepth 20000 in
theorem gq_X12_where : GoodIn lw_tbl (wsV RL 97 RX12 yX12_where wsX12_where) := goodIn_q _ [(6, 135), (6, 136), (6, 137), (1, 13), (6, 138), (6, 111), (6, 113), (0, 46), (1, 13), (6, 114), (5, 56), (5, 190), (5, 192), (0, 26), (5, 193), (5, 41), (5, 42), (6, 45), (6, 47), (0, 38), (6, 48), (5, 57), (5, 210), (5, 212), (0, 30), (5, 213), (5, 43), (5, 87), (5, 89), (5, 91), (5, 93), (5, 95), (5, 97), (5, 99), (5, 101), (5, 103), (5, 105), (5, 107), (5, 109), (5, 111), (5, 113), (5, 115), (5, 117), (5, 119), (5, 121), (5, 123), (5, 125), (5, 127), (5, 129), (5, 131), (5, 133), (5, 135), (5, 137), (5, 139), (5, 141), (5, 143), (5, 145), (5, 147), (5, 149), (5, 151), (5, 153), (5, 155), (5, 157), (5, 159), (5, 161), (5, 163), (5, 165), (5, 167), (5, 169), (5, 171), (5, 173), (5, 175), (5, 177)] (by decide +kernel) (by decide +kernel)
theorem dL_law_904 : decode cL_law 904 = .ok (.aload_n 1, 1) := by decide +kernel
theorem dL_law_905 : decode cL_law 905 = .ok (.aload_n 0, 1) := by decide +kernel
theorem dL_law_906 : decode cL_law 906 = .ok (.iload_n 3, 1) := by decide +kernel
theorem dL_law_907 : decode cL_law 907 = .ok (.iconst 1, 1) := by decide +kernel
theorem dL_law_908 : decode cL_law 908 = .ok (.iadd, 1) := by decide +kernel
theorem dL_law_909 : decode cL_law 909 = .ok (.iaload, 1) := by decide +kernel
theorem dL_law_910 : decode cL_law 910 = .ok (.aload_n 0, 1) := by decide +kernel
theorem dL_law_911 : decode cL_law 911 = .ok (.iload_n 3, 1) := by decide +kernel
theorem dL_law_912 : decode cL_law 912 = .ok (.iconst 2, 1) := by decide +kernel
theorem dL_law_913 : decode cL_law 913 = .ok (.iadd, 1) := by decide +kernel
theorem dL_law_914 : decode cL_law 914 = .ok (.iaload, 1) := by decide +kernel
theorem dL_law_915 : decode cL_law 915 = .ok (.invokevirtual 98, 3) := by decide +kernel
theorem dL_law_918 : decode cL_law 918 = .ok (.aload_n 2, 1) := by decide +kernel
theorem dL_law_919 : decode cL_law 919 = .ok (.aload_n 0, 1) := by decide +kernel
theorem dL_law_920 : decode cL_law 920 = .ok (.iload_n 3, 1) := by decide +kernel
theorem dL_law_921 : decode cL_law 921 = .ok (.iconst 1, 1) := by decide +kernel
theorem dL_law_922 : decode cL_law 922 = .ok (.iadd, 1) := by decide +kernel
theorem dL_law_923 : decode cL_law 923 = .ok (.iaload, 1) := by decide +kernel
theorem dL_law_924 : decode cL_law 924 = .ok (.aload_n 0, 1) := by decide +kernel
theorem dL_law_925 : decode cL_law 925 = .ok (.iload_n 3, 1) := by decide +kernel
theorem dL_law_926 : decode cL_law 926 = .ok (.iconst 2, 1) := by decide +kernel
theorem dL_law_927 : decode cL_law 927 = .ok (.iadd, 1) := by decide +kernel
theorem dL_law_928 : decode cL_law 928 = .ok (.iaload, 1) := by decide +kernel
theorem dL_law_929 : decode cL_law 929 = .ok (.invokevirtual 101, 3) := by decide +kernel
theorem dL_law_932 : decode cL_law 932 = .ok (.if_icmp .eq 712, 3) := by decide +kernel
set_option maxRecDepth 20000 in
theorem gq_X11_letter : GoodIn lw_tbl (wsV RL 98 RX11 yX11_letter wsX11_letter) := goodIn_q _ [(3, 193), (3, 194), (3, 195), (1, 1), (3, 196), (2, 161), (1, 157), (1, 112), (1, 124), (2, 168), (3, 154), (3, 156), (0, 8), (1, 1), (3, 157), (1, 128), (2, 199), (2, 201), (0, 0), (2, 202), (2, 167), (2, 166), (3, 197), (3, 198), (3, 199), (1, 4), (3, 200), (1, 51), (1, 52), (1, 77), (1, 75), (3, 201), (3, 168), (3, 169), (3, 170), (1, 57), (1, 58), (1, 60), (3, 171), (3, 172), (1, 17), (3, 173), (2, 169), (2, 171), (2, 173), (2, 175), (2, 177), (2, 179), (2, 181), (2, 183), (2, 185), (2, 187), (2, 189), (1, 168), (1, 170), (1, 172), (1, 174), (1, 176), (1, 178), (1, 180), (1, 182), (1, 130), (1, 132), (1, 134), (1, 136), (1, 138), (1, 140), (1, 81), (1, 83), (1, 85), (1, 87), (1, 89), (1, 91), (1, 93), (1, 95), (1, 97), (1, 99)] (by decide +kernel) (by decide +kernel)
set_option maxRecDepth 20000 in
theorem gq_X12_letter : GoodIn lw_tbl (wsV RL 101 RX12 yX12_letter wsX12_letter) := goodIn_q _ [(6, 139), (6, 140), (6, 141), (1, 13), (6, 142), (5, 187), (5, 188), (1, 13), (5, 189), (6, 111), (6, 113), (0, 46), (6, 114), (5, 56), (5, 190), (5, 192), (0, 26), (5, 193), (5, 41), (5, 42), (6, 143), (6, 145), (0, 51), (6, 146), (6, 45), (6, 47), (0, 38), (6, 48), (5, 57), (6, 123), (6, 125), (0, 49), (6, 126), (5, 55), (5, 210), (5, 212), (0, 30), (5, 213), (5, 43), (5, 87), (5, 89), (5, 91), (5, 93), (5, 95), (5, 97), (5, 99), (5, 101), (5, 103), (5, 105), (5, 107), (5, 109), (5, 111), (5, 113), (5, 115), (5, 117), (5, 119), (5, 121), (5, 123), (5, 125), (5, 127), (5, 129), (5, 131), (5, 133), (5, 135), (5, 137), (5, 139), (5, 141), (5, 143), (5, 145), (5, 147), (5, 149), (5, 151), (5, 153), (5, 155), (5, 157), (5, 159), (5, 161), (5, 163), (5, 165), (5, 167), (5, 169), (5, 171), (5, 173), (5, 175), (5, 177)] (by decide +kernel) (by decide +kernel)
theorem dL_law_937 : decode cL_law 937 = .ok (.aload_n 1, 1) := by decide +kernel
theorem dL_law_938 : decode cL_law 938 = .ok (.aload_n 0, 1) := by decide +kernel
theorem dL_law_939 : decode cL_law 939 = .ok (.iload_n 3, 1) := by decide +kernel
theorem dL_law_940 : decode cL_law 940 = .ok (.iconst 1, 1) := by decide +kernel
theorem dL_law_941 : decode cL_law 941 = .ok (.iadd, 1) := by decide +kernel
theorem dL_law_942 : decode cL_law 942 = .ok (.iaload, 1) := by decide +kernel
theorem dL_law_943 : decode cL_law 943 = .ok (.invokevirtual 102, 3) := by decide +kernel
theorem dL_law_946 : decode cL_law 946 = .ok (.aload_n 2, 1) := by decide +kernel
theorem dL_law_947 : decode cL_law 947 = .ok (.aload_n 0, 1) := by decide +kernel
theorem dL_law_948 : decode cL_law 948 = .ok (.iload_n 3, 1) := by decide +kernel
theorem dL_law_949 : decode cL_law 949 = .ok (.iconst 1, 1) := by decide +kernel
theorem dL_law_950 : decode cL_law 950 = .ok (.iadd, 1) := by decide +kernel
theorem dL_law_951 : decode cL_law 951 = .ok (.iaload, 1) := by decide +kernel
theorem dL_law_952 : decode cL_law 952 = .ok (.invokevirtual 105, 3) := by decide +kernel
theorem dL_law_955 : decode cL_law 955 = .ok (.if_icmp .eq 689, 3) := by decide +kernel
set_option maxRecDepth 20000 in
theorem gq_X11_can : GoodIn lw_tbl (wsV RL 102 RX11 yX11_can wsX11_can) := goodIn_q _ [(3, 202), (3, 203), (3, 204), (1, 1), (3, 205), (2, 161), (1, 157), (1, 112), (3, 154), (3, 156), (0, 8), (1, 1), (3, 157), (1, 128), (2, 199), (2, 201), (0, 0), (2, 202), (2, 167), (2, 166), (3, 158), (3, 159), (3, 160), (1, 2), (3, 161), (1, 79), (1, 74), (1, 152), (1, 123), (1, 64), (1, 116), (1, 160), (1, 55), (1, 143), (1, 106), (3, 162), (3, 163), (3, 164), (3, 165), (1, 69), (3, 106), (3, 107), (3, 81), (3, 82), (3, 83), (3, 84), (1, 165), (1, 148), (1, 150), (3, 86), (3, 87), (3, 167), (3, 168), (3, 169), (1, 4), (3, 170), (1, 57), (1, 58), (1, 60), (3, 171), (3, 172), (1, 17), (3, 173), (2, 169), (2, 171), (2, 173), (2, 175), (2, 177), (2, 179), (2, 181), (2, 183), (2, 185), (2, 187), (2, 189), (1, 168), (1, 170), (1, 172), (1, 174), (1, 176), (1, 178), (1, 180), (1, 182), (1, 130), (1, 132), (1, 134), (1, 136), (1, 138), (1, 140), (1, 81), (1, 83), (1, 85), (1, 87), (1, 89), (1, 91), (1, 93), (1, 95), (1, 97), (1, 99)] (by decide +kernel) (by decide +kernel)
set_option maxRecDepth 20000 in
theorem gq_X12_can : GoodIn lw_tbl (wsV RL 105 RX12 yX12_can wsX12_can) := goodIn_q _ [(6, 147), (6, 148), (6, 149), (1, 13), (6, 150), (6, 111), (6, 113), (0, 46), (1, 13), (6, 114), (5, 56), (5, 190), (5, 192), (0, 26), (5, 193), (5, 41), (5, 42), (6, 115), (6, 117), (0, 47), (6, 118), (5, 55), (5, 49), (5, 50), (5, 51), (6, 49), (6, 51), (0, 39), (6, 52), (6, 45), (6, 47), (0, 38), (6, 48), (5, 57), (6, 53), (6, 55), (0, 40), (6, 56), (5, 52), (5, 53), (5, 54), (6, 57), (6, 58), (6, 59), (6, 119), (6, 121), (0, 48), (6, 122), (6, 71), (6, 73), (0, 42), (6, 74), (6, 123), (6, 125), (0, 49), (6, 126), (5, 87), (5, 89), (5, 91), (5, 93), (5, 95), (5, 97), (5, 99), (5, 101), (5, 103), (5, 105), (5, 107), (5, 109), (5, 111), (5, 113), (5, 115), (5, 117), (5, 119), (5, 121), (5, 123), (5, 125), (5, 127), (5, 129), (5, 131), (5, 133), (5, 135), (5, 137), (5, 139), (5, 141), (5, 143), (5, 145), (5, 147), (5, 149), (5, 151), (5, 153), (5, 155), (5, 157), (5, 159), (5, 161), (5, 163), (5, 165), (5, 167), (5, 169), (5, 171), (5, 173), (5, 175), (5, 177)] (by decide +kernel) (by decide +kernel)
theorem dL_law_960 : decode cL_law 960 = .ok (.aload_n 1, 1) := by decide +kernel
theorem dL_law_961 : decode cL_law 961 = .ok (.aload_n 0, 1) := by decide +kernel
theorem dL_law_962 : decode cL_law 962 = .ok (.iload_n 3, 1) := by decide +kernel
theorem dL_law_963 : decode cL_law 963 = .ok (.iconst 1, 1) := by decide +kernel
theorem dL_law_964 : decode cL_law 964 = .ok (.iadd, 1) := by decide +kernel
theorem dL_law_965 : decode cL_law 965 = .ok (.iaload, 1) := by decide +kernel
theorem dL_law_966 : decode cL_law 966 = .ok (.invokevirtual 106, 3) := by decide +kernel
theorem dL_law_969 : decode cL_law 969 = .ok (.aload_n 2, 1) := by decide +kernel
theorem dL_law_970 : decode cL_law 970 = .ok (.aload_n 0, 1) := by decide +kernel
theorem dL_law_971 : decode cL_law 971 = .ok (.iload_n 3, 1) := by decide +kernel
theorem dL_law_972 : decode cL_law 972 = .ok (.iconst 1, 1) := by decide +kernel
theorem dL_law_973 : decode cL_law 973 = .ok (.iadd, 1) := by decide +kernel
theorem dL_law_974 : decode cL_law 974 = .ok (.iaload, 1) := by decide +kernel
theorem dL_law_975 : decode cL_law 975 = .ok (.invokevirtual 109, 3) := by decide +kernel
theorem dL_law_978 : decode cL_law 978 = .ok (.if_icmp .eq 666, 3) := by decide +kernel
set_option maxRecDepth 20000 in
theorem gq_X11_undo : GoodIn lw_tbl (wsV RL 106 RX11 yX11_undo wsX11_undo) := goodIn_q _ [(3, 206), (3, 207), (3, 208), (1, 1), (3, 209), (2, 163), (2, 8), (2, 161), (3, 210), (3, 211), (3, 212), (1, 6), (3, 213), (2, 7), (2, 6), (1, 154), (1, 110), (1, 225), (1, 226), (1, 63), (1, 229), (1, 68), (1, 230), (1, 73), (1, 76), (1, 78), (1, 224), (1, 105), (3, 184), (3, 4), (3, 3), (1, 15), (2, 169), (2, 171), (2, 173), (2, 175), (2, 177), (2, 179), (2, 181), (2, 183), (2, 185), (2, 187), (2, 189), (2, 9), (2, 11), (1, 168), (1, 170), (1, 172), (1, 174), (1, 176), (1, 178), (1, 180), (1, 182), (1, 130), (1, 132), (1, 134), (1, 136), (1, 138), (1, 140), (1, 231), (1, 233), (1, 235), (1, 237), (1, 239), (2, 1), (2, 3), (1, 81), (1, 83), (1, 85), (1, 87), (1, 89), (1, 91), (1, 93), (1, 95), (1, 97), (1, 99)] (by decide +kernel) (by decide +kernel)
set_option maxRecDepth 20000 in
theorem gq_X12_undo : GoodIn lw_tbl (wsV RL 109 RX12 yX12_undo wsX12_undo) := goodIn_q _ [(6, 151), (6, 152), (6, 153), (1, 13), (6, 154), (5, 58), (5, 65), (5, 51), (5, 187), (5, 188), (1, 13), (5, 189), (6, 103), (6, 105), (0, 45), (6, 106), (5, 57), (6, 45), (6, 47), (0, 38), (6, 48), (5, 87), (5, 89), (5, 91), (5, 93), (5, 95), (5, 97), (5, 99), (5, 101), (5, 103), (5, 105), (5, 107), (5, 109), (5, 111), (5, 113), (5, 115), (5, 117), (5, 119), (5, 121), (5, 123), (5, 125), (5, 127), (5, 129), (5, 131), (5, 133), (5, 135), (5, 137), (5, 139), (5, 141), (5, 143), (5, 145), (5, 147), (5, 149), (5, 151), (5, 153), (5, 155), (5, 157), (5, 159), (5, 161), (5, 163), (5, 165), (5, 167), (5, 169), (5, 171), (5, 173), (5, 175), (5, 177)] (by decide +kernel) (by decide +kernel)
theorem dL_law_983 : decode cL_law 983 = .ok (.aload_n 1, 1) := by decide +kernel
theorem dL_law_984 : decode cL_law 984 = .ok (.aload_n 0, 1) := by decide +kernel
theorem dL_law_985 : decode cL_law 985 = .ok (.iload_n 3, 1) := by decide +kernel
theorem dL_law_986 : decode cL_law 986 = .ok (.iconst 1, 1) := by decide +kernel
theorem dL_law_987 : decode cL_law 987 = .ok (.iadd, 1) := by decide +kernel
theorem dL_law_988 : decode cL_law 988 = .ok (.iaload, 1) := by decide +kernel
theorem dL_law_989 : decode cL_law 989 = .ok (.invokevirtual 110, 3) := by decide +kernel
theorem dL_law_992 : decode cL_law 992 = .ok (.aload_n 2, 1) := by decide +kernel
theorem dL_law_993 : decode cL_law 993 = .ok (.aload_n 0, 1) := by decide +kernel
theorem dL_law_994 : decode cL_law 994 = .ok (.iload_n 3, 1) := by decide +kernel
theorem dL_law_995 : decode cL_law 995 = .ok (.iconst 1, 1) := by decide +kernel
theorem dL_law_996 : decode cL_law 996 = .ok (.iadd, 1) := by decide +kernel
theorem dL_law_997 : decode cL_law 997 = .ok (.iaload, 1) := by decide +kernel
theorem dL_law_998 : decode cL_law 998 = .ok (.invokevirtual 113, 3) := by decide +kernel
theorem dL_law_1001 : decode cL_law 1001 = .ok (.if_icmp .eq 643, 3) := by decide +kernel
set_option maxRecDepth 20000 in
theorem gq_X11_keep : GoodIn lw_tbl (wsV RL 110 RX11 yX11_keep wsX11_keep) := goodIn_q _ [(3, 214), (3, 215), (3, 216), (1, 1), (3, 217), (2, 161), (1, 164), (2, 160), (1, 157), (1, 129), (1, 124), (3, 218), (3, 219), (1, 1), (3, 220), (3, 221), (3, 222), (3, 223), (1, 3), (3, 224), (1, 103), (3, 225), (3, 4), (3, 3), (1, 15), (1, 109), (1, 113), (1, 120), (1, 125), (3, 226), (3, 227), (3, 228), (1, 4), (3, 229), (1, 51), (1, 52), (1, 57), (1, 58), (1, 60), (1, 62), (1, 67), (1, 71), (1, 75), (1, 77), (2, 169), (2, 171), (2, 173), (2, 175), (2, 177), (2, 179), (2, 181), (2, 183), (2, 185), (2, 187), (2, 189), (1, 168), (1, 170), (1, 172), (1, 174), (1, 176), (1, 178), (1, 180), (1, 182), (1, 130), (1, 132), (1, 134), (1, 136), (1, 138), (1, 140), (1, 81), (1, 83), (1, 85), (1, 87), (1, 89), (1, 91), (1, 93), (1, 95), (1, 97), (1, 99)] (by decide +kernel) (by decide +kernel)
set_option maxRecDepth 20000 in
theorem gq_X12_keep : GoodIn lw_tbl (wsV RL 113 RX12 yX12_keep wsX12_keep) := goodIn_q _ [(6, 155), (6, 156), (6, 157), (1, 13), (6, 158), (5, 49), (5, 66), (5, 55), (5, 54), (5, 56), (5, 51), (5, 57), (5, 187), (5, 188), (1, 13), (5, 189), (5, 87), (5, 89), (5, 91), (5, 93), (5, 95), (5, 97), (5, 99), (5, 101), (5, 103), (5, 105), (5, 107), (5, 109), (5, 111), (5, 113), (5, 115), (5, 117), (5, 119), (5, 121), (5, 123), (5, 125), (5, 127), (5, 129), (5, 131), (5, 133), (5, 135), (5, 137), (5, 139), (5, 141), (5, 143), (5, 145), (5, 147), (5, 149), (5, 151), (5, 153), (5, 155), (5, 157), (5, 159), (5, 161), (5, 163), (5, 165), (5, 167), (5, 169), (5, 171), (5, 173), (5, 175), (5, 177)] (by decide +kernel) (by decide +kernel)
theorem dL_law_1006 : decode cL_law 1006 = .ok (.aload_n 1, 1) := by decide +kernel
theorem dL_law_1007 : decode cL_law 1007 = .ok (.aload_n 0, 1) := by decide +kernel
theorem dL_law_1008 : decode cL_law 1008 = .ok (.iload_n 3, 1) := by decide +kernel
theorem dL_law_1009 : decode cL_law 1009 = .ok (.iconst 1, 1) := by decide +kernel
theorem dL_law_1010 : decode cL_law 1010 = .ok (.iadd, 1) := by decide +kernel
theorem dL_law_1011 : decode cL_law 1011 = .ok (.iaload, 1) := by decide +kernel
theorem dL_law_1012 : decode cL_law 1012 = .ok (.invokevirtual 114, 3) := by decide +kernel
theorem dL_law_1015 : decode cL_law 1015 = .ok (.aload_n 2, 1) := by decide +kernel
theorem dL_law_1016 : decode cL_law 1016 = .ok (.aload_n 0, 1) := by decide +kernel
theorem dL_law_1017 : decode cL_law 1017 = .ok (.iload_n 3, 1) := by decide +kernel
theorem dL_law_1018 : decode cL_law 1018 = .ok (.iconst 1, 1) := by decide +kernel
theorem dL_law_1019 : decode cL_law 1019 = .ok (.iadd, 1) := by decide +kernel
theorem dL_law_1020 : decode cL_law 1020 = .ok (.iaload, 1) := by decide +kernel
theorem dL_law_1021 : decode cL_law 1021 = .ok (.invokevirtual 117, 3) := by decide +kernel
theorem dL_law_1024 : decode cL_law 1024 = .ok (.if_icmp .eq 620, 3) := by decide +kernel
set_option maxRecDepth 20000 in
theorem gq_X11_on : GoodIn lw_tbl (wsV RL 114 RX11 yX11_on wsX11_on) := goodIn_q _ [(3, 230), (3, 231), (3, 232), (1, 1), (3, 233), (2, 160), (1, 129), (2, 161), (1, 157), (2, 163), (2, 8), (1, 124), (3, 218), (3, 219), (1, 1), (3, 220), (2, 199), (2, 201), (0, 0), (2, 202), (2, 167), (2, 166), (3, 221), (3, 222), (3, 223), (1, 3), (3, 224), (1, 103), (3, 225), (3, 4), (3, 3), (1, 15), (1, 109), (1, 113), (1, 120), (1, 125), (3, 226), (3, 227), (3, 228), (1, 4), (3, 229), (1, 51), (1, 52), (1, 57), (1, 58), (1, 60), (1, 62), (1, 67), (1, 71), (1, 75), (1, 77), (2, 169), (2, 171), (2, 173), (2, 175), (2, 177), (2, 179), (2, 181), (2, 183), (2, 185), (2, 187), (2, 189), (1, 130), (1, 132), (1, 134), (1, 136), (1, 138), (1, 140), (1, 168), (1, 170), (1, 172), (1, 174), (1, 176), (1, 178), (1, 180), (1, 182), (2, 9), (2, 11), (1, 81), (1, 83), (1, 85), (1, 87), (1, 89), (1, 91), (1, 93), (1, 95), (1, 97), (1, 99)] (by decide +kernel) (by decide +kernel)
set_option maxRecDepth 20000 in
theorem gq_X12_on : GoodIn lw_tbl (wsV RL 117 RX12 yX12_on wsX12_on) := goodIn_q _ [(6, 159), (6, 160), (6, 161), (1, 13), (6, 162), (5, 66), (5, 55), (5, 54), (5, 56), (5, 51), (5, 57), (5, 58), (5, 187), (5, 188), (1, 13), (5, 189), (5, 190), (5, 192), (0, 26), (5, 193), (5, 41), (5, 42), (5, 87), (5, 89), (5, 91), (5, 93), (5, 95), (5, 97), (5, 99), (5, 101), (5, 103), (5, 105), (5, 107), (5, 109), (5, 111), (5, 113), (5, 115), (5, 117), (5, 119), (5, 121), (5, 123), (5, 125), (5, 127), (5, 129), (5, 131), (5, 133), (5, 135), (5, 137), (5, 139), (5, 141), (5, 143), (5, 145), (5, 147), (5, 149), (5, 151), (5, 153), (5, 155), (5, 157), (5, 159), (5, 161), (5, 163), (5, 165), (5, 167), (5, 169), (5, 171), (5, 173), (5, 175), (5, 177)] (by decide +kernel) (by decide +kernel)
