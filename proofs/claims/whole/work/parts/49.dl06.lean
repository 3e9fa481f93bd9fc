theorem dL_law_2239 : decode cL_law 2239 = .ok (.istore 5, 2) := by decide +kernel
theorem dL_law_2241 : decode cL_law 2241 = .ok (.aload_n 2, 1) := by decide +kernel
theorem dL_law_2242 : decode cL_law 2242 = .ok (.aload_n 0, 1) := by decide +kernel
theorem dL_law_2243 : decode cL_law 2243 = .ok (.iload 4, 2) := by decide +kernel
theorem dL_law_2245 : decode cL_law 2245 = .ok (.iconst 1, 1) := by decide +kernel
theorem dL_law_2246 : decode cL_law 2246 = .ok (.iadd, 1) := by decide +kernel
theorem dL_law_2247 : decode cL_law 2247 = .ok (.iaload, 1) := by decide +kernel
theorem dL_law_2248 : decode cL_law 2248 = .ok (.invokevirtual 333, 3) := by decide +kernel
theorem dL_law_2251 : decode cL_law 2251 = .ok (.istore 6, 2) := by decide +kernel
theorem dL_law_2253 : decode cL_law 2253 = .ok (.aload_n 2, 1) := by decide +kernel
theorem dL_law_2254 : decode cL_law 2254 = .ok (.invokevirtual 190, 3) := by decide +kernel
theorem dL_law_2257 : decode cL_law 2257 = .ok (.iload 5, 2) := by decide +kernel
theorem dL_law_2259 : decode cL_law 2259 = .ok (.if_icmp .eq 5, 3) := by decide +kernel
theorem dL_law_2262 : decode cL_law 2262 = .ok (.iconst 0, 1) := by decide +kernel
theorem dL_law_2263 : decode cL_law 2263 = .ok (.ireturn, 1) := by decide +kernel
theorem dL_law_2264 : decode cL_law 2264 = .ok (.iload 5, 2) := by decide +kernel
theorem dL_law_2266 : decode cL_law 2266 = .ok (.ifCond .ne 15, 3) := by decide +kernel
theorem dL_law_2269 : decode cL_law 2269 = .ok (.aload_n 3, 1) := by decide +kernel
theorem dL_law_2270 : decode cL_law 2270 = .ok (.iconst 0, 1) := by decide +kernel
theorem dL_law_2271 : decode cL_law 2271 = .ok (.laload, 1) := by decide +kernel
theorem dL_law_2272 : decode cL_law 2272 = .ok (.iload 6, 2) := by decide +kernel
theorem dL_law_2274 : decode cL_law 2274 = .ok (.i2l, 1) := by decide +kernel
theorem dL_law_2275 : decode cL_law 2275 = .ok (.lcmp, 1) := by decide +kernel
theorem dL_law_2276 : decode cL_law 2276 = .ok (.ifCond .eq 5, 3) := by decide +kernel
theorem dL_law_2279 : decode cL_law 2279 = .ok (.iconst 0, 1) := by decide +kernel
theorem dL_law_2280 : decode cL_law 2280 = .ok (.ireturn, 1) := by decide +kernel
theorem dL_law_2281 : decode cL_law 2281 = .ok (.goto 1275, 3) := by decide +kernel
theorem dL_law_2284 : decode cL_law 2284 = .ok (.aload_n 1, 1) := by decide +kernel
theorem dL_law_2285 : decode cL_law 2285 = .ok (.aload_n 0, 1) := by decide +kernel
theorem dL_law_2286 : decode cL_law 2286 = .ok (.iload 4, 2) := by decide +kernel
theorem dL_law_2288 : decode cL_law 2288 = .ok (.iconst 1, 1) := by decide +kernel
theorem dL_law_2289 : decode cL_law 2289 = .ok (.iadd, 1) := by decide +kernel
theorem dL_law_2290 : decode cL_law 2290 = .ok (.iaload, 1) := by decide +kernel
theorem dL_law_2291 : decode cL_law 2291 = .ok (.aload_n 3, 1) := by decide +kernel
theorem dL_law_2292 : decode cL_law 2292 = .ok (.invokestatic 334, 3) := by decide +kernel
theorem dL_law_2295 : decode cL_law 2295 = .ok (.istore 5, 2) := by decide +kernel
theorem dL_law_2297 : decode cL_law 2297 = .ok (.aload_n 2, 1) := by decide +kernel
theorem dL_law_2298 : decode cL_law 2298 = .ok (.aload_n 0, 1) := by decide +kernel
theorem dL_law_2299 : decode cL_law 2299 = .ok (.iload 4, 2) := by decide +kernel
theorem dL_law_2301 : decode cL_law 2301 = .ok (.iconst 1, 1) := by decide +kernel
theorem dL_law_2302 : decode cL_law 2302 = .ok (.iadd, 1) := by decide +kernel
theorem dL_law_2303 : decode cL_law 2303 = .ok (.iaload, 1) := by decide +kernel
theorem dL_law_2304 : decode cL_law 2304 = .ok (.invokevirtual 336, 3) := by decide +kernel
theorem dL_law_2307 : decode cL_law 2307 = .ok (.istore 6, 2) := by decide +kernel
theorem dL_law_2309 : decode cL_law 2309 = .ok (.aload_n 2, 1) := by decide +kernel
theorem dL_law_2310 : decode cL_law 2310 = .ok (.invokevirtual 190, 3) := by decide +kernel
theorem dL_law_2313 : decode cL_law 2313 = .ok (.iload 5, 2) := by decide +kernel
theorem dL_law_2315 : decode cL_law 2315 = .ok (.if_icmp .eq 5, 3) := by decide +kernel
theorem dL_law_2318 : decode cL_law 2318 = .ok (.iconst 0, 1) := by decide +kernel
theorem dL_law_2319 : decode cL_law 2319 = .ok (.ireturn, 1) := by decide +kernel
theorem dL_law_2320 : decode cL_law 2320 = .ok (.iload 5, 2) := by decide +kernel
theorem dL_law_2322 : decode cL_law 2322 = .ok (.ifCond .ne 22, 3) := by decide +kernel
theorem dL_law_2325 : decode cL_law 2325 = .ok (.aload_n 3, 1) := by decide +kernel
theorem dL_law_2326 : decode cL_law 2326 = .ok (.iconst 0, 1) := by decide +kernel
theorem dL_law_2327 : decode cL_law 2327 = .ok (.laload, 1) := by decide +kernel
theorem dL_law_2328 : decode cL_law 2328 = .ok (.iload 6, 2) := by decide +kernel
theorem dL_law_2330 : decode cL_law 2330 = .ok (.ifCond .eq 7, 3) := by decide +kernel
theorem dL_law_2333 : decode cL_law 2333 = .ok (.lconst 1, 1) := by decide +kernel
theorem dL_law_2334 : decode cL_law 2334 = .ok (.goto 4, 3) := by decide +kernel
theorem dL_law_2337 : decode cL_law 2337 = .ok (.lconst 0, 1) := by decide +kernel
theorem dL_law_2338 : decode cL_law 2338 = .ok (.lcmp, 1) := by decide +kernel
theorem dL_law_2339 : decode cL_law 2339 = .ok (.ifCond .eq 5, 3) := by decide +kernel
theorem dL_law_2342 : decode cL_law 2342 = .ok (.iconst 0, 1) := by decide +kernel
theorem dL_law_2343 : decode cL_law 2343 = .ok (.ireturn, 1) := by decide +kernel
theorem dL_law_2344 : decode cL_law 2344 = .ok (.goto 1212, 3) := by decide +kernel
theorem dL_law_2347 : decode cL_law 2347 = .ok (.aload_n 1, 1) := by decide +kernel
theorem dL_law_2348 : decode cL_law 2348 = .ok (.aload_n 0, 1) := by decide +kernel
theorem dL_law_2349 : decode cL_law 2349 = .ok (.iload 4, 2) := by decide +kernel
theorem dL_law_2351 : decode cL_law 2351 = .ok (.iconst 1, 1) := by decide +kernel
theorem dL_law_2352 : decode cL_law 2352 = .ok (.iadd, 1) := by decide +kernel
theorem dL_law_2353 : decode cL_law 2353 = .ok (.iaload, 1) := by decide +kernel
theorem dL_law_2354 : decode cL_law 2354 = .ok (.aload_n 3, 1) := by decide +kernel
theorem dL_law_2355 : decode cL_law 2355 = .ok (.invokestatic 337, 3) := by decide +kernel
theorem dL_law_2358 : decode cL_law 2358 = .ok (.istore 5, 2) := by decide +kernel
theorem dL_law_2360 : decode cL_law 2360 = .ok (.aload_n 2, 1) := by decide +kernel
theorem dL_law_2361 : decode cL_law 2361 = .ok (.aload_n 0, 1) := by decide +kernel
theorem dL_law_2362 : decode cL_law 2362 = .ok (.iload 4, 2) := by decide +kernel
theorem dL_law_2364 : decode cL_law 2364 = .ok (.iconst 1, 1) := by decide +kernel
theorem dL_law_2365 : decode cL_law 2365 = .ok (.iadd, 1) := by decide +kernel
theorem dL_law_2366 : decode cL_law 2366 = .ok (.iaload, 1) := by decide +kernel
theorem dL_law_2367 : decode cL_law 2367 = .ok (.invokevirtual 339, 3) := by decide +kernel
theorem dL_law_2370 : decode cL_law 2370 = .ok (.istore 6, 2) := by decide +kernel
theorem dL_law_2372 : decode cL_law 2372 = .ok (.aload_n 2, 1) := by decide +kernel
theorem dL_law_2373 : decode cL_law 2373 = .ok (.invokevirtual 190, 3) := by decide +kernel
theorem dL_law_2376 : decode cL_law 2376 = .ok (.iload 5, 2) := by decide +kernel
theorem dL_law_2378 : decode cL_law 2378 = .ok (.if_icmp .eq 5, 3) := by decide +kernel
theorem dL_law_2381 : decode cL_law 2381 = .ok (.iconst 0, 1) := by decide +kernel
theorem dL_law_2382 : decode cL_law 2382 = .ok (.ireturn, 1) := by decide +kernel
theorem dL_law_2383 : decode cL_law 2383 = .ok (.iload 5, 2) := by decide +kernel
theorem dL_law_2385 : decode cL_law 2385 = .ok (.ifCond .ne 15, 3) := by decide +kernel
theorem dL_law_2388 : decode cL_law 2388 = .ok (.aload_n 3, 1) := by decide +kernel
theorem dL_law_2389 : decode cL_law 2389 = .ok (.iconst 0, 1) := by decide +kernel
theorem dL_law_2390 : decode cL_law 2390 = .ok (.laload, 1) := by decide +kernel
theorem dL_law_2391 : decode cL_law 2391 = .ok (.iload 6, 2) := by decide +kernel
theorem dL_law_2393 : decode cL_law 2393 = .ok (.i2l, 1) := by decide +kernel
theorem dL_law_2394 : decode cL_law 2394 = .ok (.lcmp, 1) := by decide +kernel
theorem dL_law_2395 : decode cL_law 2395 = .ok (.ifCond .eq 5, 3) := by decide +kernel
theorem dL_law_2398 : decode cL_law 2398 = .ok (.iconst 0, 1) := by decide +kernel
theorem dL_law_2399 : decode cL_law 2399 = .ok (.ireturn, 1) := by decide +kernel
theorem dL_law_2400 : decode cL_law 2400 = .ok (.goto 1156, 3) := by decide +kernel
theorem dL_law_2403 : decode cL_law 2403 = .ok (.aload_n 1, 1) := by decide +kernel
theorem dL_law_2404 : decode cL_law 2404 = .ok (.aload_n 0, 1) := by decide +kernel
theorem dL_law_2405 : decode cL_law 2405 = .ok (.iload 4, 2) := by decide +kernel
theorem dL_law_2407 : decode cL_law 2407 = .ok (.iconst 1, 1) := by decide +kernel
theorem dL_law_2408 : decode cL_law 2408 = .ok (.iadd, 1) := by decide +kernel
theorem dL_law_2409 : decode cL_law 2409 = .ok (.iaload, 1) := by decide +kernel
theorem dL_law_2410 : decode cL_law 2410 = .ok (.aload_n 3, 1) := by decide +kernel
theorem dL_law_2411 : decode cL_law 2411 = .ok (.invokestatic 340, 3) := by decide +kernel
theorem dL_law_2414 : decode cL_law 2414 = .ok (.istore 5, 2) := by decide +kernel
theorem dL_law_2416 : decode cL_law 2416 = .ok (.aload_n 2, 1) := by decide +kernel
theorem dL_law_2417 : decode cL_law 2417 = .ok (.aload_n 0, 1) := by decide +kernel
theorem dL_law_2418 : decode cL_law 2418 = .ok (.iload 4, 2) := by decide +kernel
theorem dL_law_2420 : decode cL_law 2420 = .ok (.iconst 1, 1) := by decide +kernel
theorem dL_law_2421 : decode cL_law 2421 = .ok (.iadd, 1) := by decide +kernel
theorem dL_law_2422 : decode cL_law 2422 = .ok (.iaload, 1) := by decide +kernel
theorem dL_law_2423 : decode cL_law 2423 = .ok (.invokevirtual 342, 3) := by decide +kernel
theorem dL_law_2426 : decode cL_law 2426 = .ok (.istore 6, 2) := by decide +kernel
theorem dL_law_2428 : decode cL_law 2428 = .ok (.aload_n 2, 1) := by decide +kernel
theorem dL_law_2429 : decode cL_law 2429 = .ok (.invokevirtual 190, 3) := by decide +kernel
theorem dL_law_2432 : decode cL_law 2432 = .ok (.iload 5, 2) := by decide +kernel
theorem dL_law_2434 : decode cL_law 2434 = .ok (.if_icmp .eq 5, 3) := by decide +kernel
theorem dL_law_2437 : decode cL_law 2437 = .ok (.iconst 0, 1) := by decide +kernel
theorem dL_law_2438 : decode cL_law 2438 = .ok (.ireturn, 1) := by decide +kernel
theorem dL_law_2439 : decode cL_law 2439 = .ok (.iload 5, 2) := by decide +kernel
theorem dL_law_2441 : decode cL_law 2441 = .ok (.ifCond .ne 15, 3) := by decide +kernel
theorem dL_law_2444 : decode cL_law 2444 = .ok (.aload_n 3, 1) := by decide +kernel
theorem dL_law_2445 : decode cL_law 2445 = .ok (.iconst 0, 1) := by decide +kernel
theorem dL_law_2446 : decode cL_law 2446 = .ok (.laload, 1) := by decide +kernel
theorem dL_law_2447 : decode cL_law 2447 = .ok (.iload 6, 2) := by decide +kernel
theorem dL_law_2449 : decode cL_law 2449 = .ok (.i2l, 1) := by decide +kernel
theorem dL_law_2450 : decode cL_law 2450 = .ok (.lcmp, 1) := by decide +kernel
theorem dL_law_2451 : decode cL_law 2451 = .ok (.ifCond .eq 5, 3) := by decide +kernel
theorem dL_law_2454 : decode cL_law 2454 = .ok (.iconst 0, 1) := by decide +kernel
theorem dL_law_2455 : decode cL_law 2455 = .ok (.ireturn, 1) := by decide +kernel
theorem dL_law_2456 : decode cL_law 2456 = .ok (.goto 1100, 3) := by decide +kernel
theorem dL_law_2459 : decode cL_law 2459 = .ok (.aload_n 1, 1) := by decide +kernel
theorem dL_law_2460 : decode cL_law 2460 = .ok (.aload_n 0, 1) := by decide +kernel
theorem dL_law_2461 : decode cL_law 2461 = .ok (.iload 4, 2) := by decide +kernel
theorem dL_law_2463 : decode cL_law 2463 = .ok (.iconst 1, 1) := by decide +kernel
theorem dL_law_2464 : decode cL_law 2464 = .ok (.iadd, 1) := by decide +kernel
theorem dL_law_2465 : decode cL_law 2465 = .ok (.iaload, 1) := by decide +kernel
theorem dL_law_2466 : decode cL_law 2466 = .ok (.aload_n 3, 1) := by decide +kernel
theorem dL_law_2467 : decode cL_law 2467 = .ok (.invokestatic 343, 3) := by decide +kernel
theorem dL_law_2470 : decode cL_law 2470 = .ok (.istore 5, 2) := by decide +kernel
theorem dL_law_2472 : decode cL_law 2472 = .ok (.aload_n 2, 1) := by decide +kernel
theorem dL_law_2473 : decode cL_law 2473 = .ok (.aload_n 0, 1) := by decide +kernel
theorem dL_law_2474 : decode cL_law 2474 = .ok (.iload 4, 2) := by decide +kernel
theorem dL_law_2476 : decode cL_law 2476 = .ok (.iconst 1, 1) := by decide +kernel
theorem dL_law_2477 : decode cL_law 2477 = .ok (.iadd, 1) := by decide +kernel
theorem dL_law_2478 : decode cL_law 2478 = .ok (.iaload, 1) := by decide +kernel
theorem dL_law_2479 : decode cL_law 2479 = .ok (.invokevirtual 345, 3) := by decide +kernel
theorem dL_law_2482 : decode cL_law 2482 = .ok (.istore 6, 2) := by decide +kernel
theorem dL_law_2484 : decode cL_law 2484 = .ok (.aload_n 2, 1) := by decide +kernel
theorem dL_law_2485 : decode cL_law 2485 = .ok (.invokevirtual 190, 3) := by decide +kernel
theorem dL_law_2488 : decode cL_law 2488 = .ok (.iload 5, 2) := by decide +kernel
theorem dL_law_2490 : decode cL_law 2490 = .ok (.if_icmp .eq 5, 3) := by decide +kernel
theorem dL_law_2493 : decode cL_law 2493 = .ok (.iconst 0, 1) := by decide +kernel
theorem dL_law_2494 : decode cL_law 2494 = .ok (.ireturn, 1) := by decide +kernel
theorem dL_law_2495 : decode cL_law 2495 = .ok (.iload 5, 2) := by decide +kernel
theorem dL_law_2497 : decode cL_law 2497 = .ok (.ifCond .ne 15, 3) := by decide +kernel
theorem dL_law_2500 : decode cL_law 2500 = .ok (.aload_n 3, 1) := by decide +kernel
theorem dL_law_2501 : decode cL_law 2501 = .ok (.iconst 0, 1) := by decide +kernel
theorem dL_law_2502 : decode cL_law 2502 = .ok (.laload, 1) := by decide +kernel
theorem dL_law_2503 : decode cL_law 2503 = .ok (.iload 6, 2) := by decide +kernel
theorem dL_law_2505 : decode cL_law 2505 = .ok (.i2l, 1) := by decide +kernel
theorem dL_law_2506 : decode cL_law 2506 = .ok (.lcmp, 1) := by decide +kernel
theorem dL_law_2507 : decode cL_law 2507 = .ok (.ifCond .eq 5, 3) := by decide +kernel
theorem dL_law_2510 : decode cL_law 2510 = .ok (.iconst 0, 1) := by decide +kernel
theorem dL_law_2511 : decode cL_law 2511 = .ok (.ireturn, 1) := by decide +kernel
theorem dL_law_2512 : decode cL_law 2512 = .ok (.goto 1044, 3) := by decide +kernel
theorem dL_law_2515 : decode cL_law 2515 = .ok (.aload_n 1, 1) := by decide +kernel
theorem dL_law_2516 : decode cL_law 2516 = .ok (.aload_n 0, 1) := by decide +kernel
theorem dL_law_2517 : decode cL_law 2517 = .ok (.iload 4, 2) := by decide +kernel
theorem dL_law_2519 : decode cL_law 2519 = .ok (.iconst 1, 1) := by decide +kernel
theorem dL_law_2520 : decode cL_law 2520 = .ok (.iadd, 1) := by decide +kernel
theorem dL_law_2521 : decode cL_law 2521 = .ok (.iaload, 1) := by decide +kernel
theorem dL_law_2522 : decode cL_law 2522 = .ok (.aload_n 3, 1) := by decide +kernel
theorem dL_law_2523 : decode cL_law 2523 = .ok (.invokestatic 346, 3) := by decide +kernel
theorem dL_law_2526 : decode cL_law 2526 = .ok (.istore 5, 2) := by decide +kernel
theorem dL_law_2528 : decode cL_law 2528 = .ok (.aload_n 2, 1) := by decide +kernel
theorem dL_law_2529 : decode cL_law 2529 = .ok (.aload_n 0, 1) := by decide +kernel
theorem dL_law_2530 : decode cL_law 2530 = .ok (.iload 4, 2) := by decide +kernel
theorem dL_law_2532 : decode cL_law 2532 = .ok (.iconst 1, 1) := by decide +kernel
theorem dL_law_2533 : decode cL_law 2533 = .ok (.iadd, 1) := by decide +kernel
theorem dL_law_2534 : decode cL_law 2534 = .ok (.iaload, 1) := by decide +kernel
theorem dL_law_2535 : decode cL_law 2535 = .ok (.invokevirtual 348, 3) := by decide +kernel
theorem dL_law_2538 : decode cL_law 2538 = .ok (.istore 6, 2) := by decide +kernel
theorem dL_law_2540 : decode cL_law 2540 = .ok (.aload_n 2, 1) := by decide +kernel
theorem dL_law_2541 : decode cL_law 2541 = .ok (.invokevirtual 190, 3) := by decide +kernel
theorem dL_law_2544 : decode cL_law 2544 = .ok (.iload 5, 2) := by decide +kernel
theorem dL_law_2546 : decode cL_law 2546 = .ok (.if_icmp .eq 5, 3) := by decide +kernel
theorem dL_law_2549 : decode cL_law 2549 = .ok (.iconst 0, 1) := by decide +kernel
theorem dL_law_2550 : decode cL_law 2550 = .ok (.ireturn, 1) := by decide +kernel
theorem dL_law_2551 : decode cL_law 2551 = .ok (.iload 5, 2) := by decide +kernel
theorem dL_law_2553 : decode cL_law 2553 = .ok (.ifCond .ne 15, 3) := by decide +kernel
theorem dL_law_2556 : decode cL_law 2556 = .ok (.aload_n 3, 1) := by decide +kernel
theorem dL_law_2557 : decode cL_law 2557 = .ok (.iconst 0, 1) := by decide +kernel
theorem dL_law_2558 : decode cL_law 2558 = .ok (.laload, 1) := by decide +kernel
theorem dL_law_2559 : decode cL_law 2559 = .ok (.iload 6, 2) := by decide +kernel
theorem dL_law_2561 : decode cL_law 2561 = .ok (.i2l, 1) := by decide +kernel
