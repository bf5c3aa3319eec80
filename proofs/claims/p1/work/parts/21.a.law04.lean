theorem dL_law_2142 : decode cL_law 2142 = .ok (.invokestatic 309, 3) := by decide +kernel
theorem dL_law_2145 : decode cL_law 2145 = .ok (.istore 5, 2) := by decide +kernel
theorem dL_law_2147 : decode cL_law 2147 = .ok (.aload_n 2, 1) := by decide +kernel
theorem dL_law_2148 : decode cL_law 2148 = .ok (.invokevirtual 311, 3) := by decide +kernel
theorem dL_law_2151 : decode cL_law 2151 = .ok (.istore 6, 2) := by decide +kernel
theorem dL_law_2153 : decode cL_law 2153 = .ok (.aload_n 2, 1) := by decide +kernel
theorem dL_law_2154 : decode cL_law 2154 = .ok (.invokevirtual 187, 3) := by decide +kernel
theorem dL_law_2157 : decode cL_law 2157 = .ok (.iload 5, 2) := by decide +kernel
theorem dL_law_2159 : decode cL_law 2159 = .ok (.if_icmp .eq 5, 3) := by decide +kernel
theorem dL_law_2164 : decode cL_law 2164 = .ok (.iload 5, 2) := by decide +kernel
theorem dL_law_2166 : decode cL_law 2166 = .ok (.ifCond .ne 15, 3) := by decide +kernel
theorem dL_law_2181 : decode cL_law 2181 = .ok (.goto 1005, 3) := by decide +kernel
theorem dL_law_2184 : decode cL_law 2184 = .ok (.aload_n 1, 1) := by decide +kernel
theorem dL_law_2185 : decode cL_law 2185 = .ok (.aload_n 3, 1) := by decide +kernel
theorem dL_law_2186 : decode cL_law 2186 = .ok (.invokestatic 312, 3) := by decide +kernel
theorem dL_law_2189 : decode cL_law 2189 = .ok (.istore 5, 2) := by decide +kernel
theorem dL_law_2191 : decode cL_law 2191 = .ok (.aload_n 2, 1) := by decide +kernel
theorem dL_law_2192 : decode cL_law 2192 = .ok (.invokevirtual 314, 3) := by decide +kernel
theorem dL_law_2195 : decode cL_law 2195 = .ok (.istore 6, 2) := by decide +kernel
theorem dL_law_2197 : decode cL_law 2197 = .ok (.aload_n 2, 1) := by decide +kernel
theorem dL_law_2198 : decode cL_law 2198 = .ok (.invokevirtual 187, 3) := by decide +kernel
theorem dL_law_2201 : decode cL_law 2201 = .ok (.iload 5, 2) := by decide +kernel
theorem dL_law_2203 : decode cL_law 2203 = .ok (.if_icmp .eq 5, 3) := by decide +kernel
theorem dL_law_2208 : decode cL_law 2208 = .ok (.iload 5, 2) := by decide +kernel
theorem dL_law_2210 : decode cL_law 2210 = .ok (.ifCond .ne 15, 3) := by decide +kernel
theorem dL_law_2225 : decode cL_law 2225 = .ok (.goto 961, 3) := by decide +kernel
theorem dL_law_2228 : decode cL_law 2228 = .ok (.aload_n 1, 1) := by decide +kernel
theorem dL_law_2229 : decode cL_law 2229 = .ok (.aload_n 3, 1) := by decide +kernel
theorem dL_law_2230 : decode cL_law 2230 = .ok (.invokestatic 315, 3) := by decide +kernel
theorem dL_law_2233 : decode cL_law 2233 = .ok (.istore 5, 2) := by decide +kernel
theorem dL_law_2235 : decode cL_law 2235 = .ok (.aload_n 2, 1) := by decide +kernel
theorem dL_law_2236 : decode cL_law 2236 = .ok (.invokevirtual 317, 3) := by decide +kernel
theorem dL_law_2239 : decode cL_law 2239 = .ok (.istore 6, 2) := by decide +kernel
theorem dL_law_2241 : decode cL_law 2241 = .ok (.aload_n 2, 1) := by decide +kernel
theorem dL_law_2242 : decode cL_law 2242 = .ok (.invokevirtual 187, 3) := by decide +kernel
theorem dL_law_2245 : decode cL_law 2245 = .ok (.iload 5, 2) := by decide +kernel
theorem dL_law_2247 : decode cL_law 2247 = .ok (.if_icmp .eq 5, 3) := by decide +kernel
theorem dL_law_2252 : decode cL_law 2252 = .ok (.iload 5, 2) := by decide +kernel
theorem dL_law_2254 : decode cL_law 2254 = .ok (.ifCond .ne 15, 3) := by decide +kernel
theorem dL_law_2269 : decode cL_law 2269 = .ok (.goto 917, 3) := by decide +kernel
theorem dL_law_2272 : decode cL_law 2272 = .ok (.aload_n 1, 1) := by decide +kernel
theorem dL_law_2273 : decode cL_law 2273 = .ok (.invokevirtual 318, 3) := by decide +kernel
theorem dL_law_2276 : decode cL_law 2276 = .ok (.aload_n 2, 1) := by decide +kernel
theorem dL_law_2277 : decode cL_law 2277 = .ok (.invokevirtual 321, 3) := by decide +kernel
theorem dL_law_2280 : decode cL_law 2280 = .ok (.if_icmp .eq 906, 3) := by decide +kernel
theorem dL_law_2285 : decode cL_law 2285 = .ok (.aload_n 1, 1) := by decide +kernel
theorem dL_law_2286 : decode cL_law 2286 = .ok (.aload_n 0, 1) := by decide +kernel
theorem dL_law_2287 : decode cL_law 2287 = .ok (.iload 4, 2) := by decide +kernel
theorem dL_law_2289 : decode cL_law 2289 = .ok (.iconst 1, 1) := by decide +kernel
theorem dL_law_2290 : decode cL_law 2290 = .ok (.iadd, 1) := by decide +kernel
theorem dL_law_2291 : decode cL_law 2291 = .ok (.iaload, 1) := by decide +kernel
theorem dL_law_2292 : decode cL_law 2292 = .ok (.aload_n 3, 1) := by decide +kernel
theorem dL_law_2293 : decode cL_law 2293 = .ok (.invokestatic 322, 3) := by decide +kernel
theorem dL_law_2296 : decode cL_law 2296 = .ok (.istore 5, 2) := by decide +kernel
theorem dL_law_2298 : decode cL_law 2298 = .ok (.aload_n 2, 1) := by decide +kernel
theorem dL_law_2299 : decode cL_law 2299 = .ok (.aload_n 0, 1) := by decide +kernel
theorem dL_law_2300 : decode cL_law 2300 = .ok (.iload 4, 2) := by decide +kernel
theorem dL_law_2302 : decode cL_law 2302 = .ok (.iconst 1, 1) := by decide +kernel
theorem dL_law_2303 : decode cL_law 2303 = .ok (.iadd, 1) := by decide +kernel
theorem dL_law_2304 : decode cL_law 2304 = .ok (.iaload, 1) := by decide +kernel
theorem dL_law_2305 : decode cL_law 2305 = .ok (.invokevirtual 324, 3) := by decide +kernel
theorem dL_law_2308 : decode cL_law 2308 = .ok (.istore 6, 2) := by decide +kernel
theorem dL_law_2310 : decode cL_law 2310 = .ok (.aload_n 2, 1) := by decide +kernel
theorem dL_law_2311 : decode cL_law 2311 = .ok (.invokevirtual 187, 3) := by decide +kernel
theorem dL_law_2314 : decode cL_law 2314 = .ok (.iload 5, 2) := by decide +kernel
theorem dL_law_2316 : decode cL_law 2316 = .ok (.if_icmp .eq 5, 3) := by decide +kernel
theorem dL_law_2321 : decode cL_law 2321 = .ok (.iload 5, 2) := by decide +kernel
theorem dL_law_2323 : decode cL_law 2323 = .ok (.ifCond .ne 15, 3) := by decide +kernel
theorem dL_law_2338 : decode cL_law 2338 = .ok (.goto 848, 3) := by decide +kernel
theorem dL_law_2341 : decode cL_law 2341 = .ok (.aload_n 1, 1) := by decide +kernel
theorem dL_law_2342 : decode cL_law 2342 = .ok (.aload_n 3, 1) := by decide +kernel
theorem dL_law_2343 : decode cL_law 2343 = .ok (.invokestatic 325, 3) := by decide +kernel
theorem dL_law_2346 : decode cL_law 2346 = .ok (.istore 5, 2) := by decide +kernel
theorem dL_law_2348 : decode cL_law 2348 = .ok (.aload_n 2, 1) := by decide +kernel
theorem dL_law_2349 : decode cL_law 2349 = .ok (.invokevirtual 327, 3) := by decide +kernel
theorem dL_law_2352 : decode cL_law 2352 = .ok (.istore 6, 2) := by decide +kernel
theorem dL_law_2354 : decode cL_law 2354 = .ok (.aload_n 2, 1) := by decide +kernel
theorem dL_law_2355 : decode cL_law 2355 = .ok (.invokevirtual 187, 3) := by decide +kernel
theorem dL_law_2358 : decode cL_law 2358 = .ok (.iload 5, 2) := by decide +kernel
theorem dL_law_2360 : decode cL_law 2360 = .ok (.if_icmp .eq 5, 3) := by decide +kernel
theorem dL_law_2365 : decode cL_law 2365 = .ok (.iload 5, 2) := by decide +kernel
theorem dL_law_2367 : decode cL_law 2367 = .ok (.ifCond .ne 15, 3) := by decide +kernel
theorem dL_law_2382 : decode cL_law 2382 = .ok (.goto 804, 3) := by decide +kernel
theorem dL_law_2385 : decode cL_law 2385 = .ok (.aload_n 1, 1) := by decide +kernel
theorem dL_law_2386 : decode cL_law 2386 = .ok (.aload_n 3, 1) := by decide +kernel
theorem dL_law_2387 : decode cL_law 2387 = .ok (.invokestatic 328, 3) := by decide +kernel
theorem dL_law_2390 : decode cL_law 2390 = .ok (.istore 5, 2) := by decide +kernel
theorem dL_law_2392 : decode cL_law 2392 = .ok (.aload_n 2, 1) := by decide +kernel
theorem dL_law_2393 : decode cL_law 2393 = .ok (.invokevirtual 330, 3) := by decide +kernel
theorem dL_law_2396 : decode cL_law 2396 = .ok (.istore 6, 2) := by decide +kernel
theorem dL_law_2398 : decode cL_law 2398 = .ok (.aload_n 2, 1) := by decide +kernel
theorem dL_law_2399 : decode cL_law 2399 = .ok (.invokevirtual 187, 3) := by decide +kernel
theorem dL_law_2402 : decode cL_law 2402 = .ok (.iload 5, 2) := by decide +kernel
theorem dL_law_2404 : decode cL_law 2404 = .ok (.if_icmp .eq 5, 3) := by decide +kernel
theorem dL_law_2409 : decode cL_law 2409 = .ok (.iload 5, 2) := by decide +kernel
theorem dL_law_2411 : decode cL_law 2411 = .ok (.ifCond .ne 15, 3) := by decide +kernel
theorem dL_law_2426 : decode cL_law 2426 = .ok (.goto 760, 3) := by decide +kernel
theorem dL_law_2429 : decode cL_law 2429 = .ok (.aload_n 1, 1) := by decide +kernel
theorem dL_law_2430 : decode cL_law 2430 = .ok (.aload_n 0, 1) := by decide +kernel
theorem dL_law_2431 : decode cL_law 2431 = .ok (.iload 4, 2) := by decide +kernel
theorem dL_law_2433 : decode cL_law 2433 = .ok (.iconst 1, 1) := by decide +kernel
theorem dL_law_2434 : decode cL_law 2434 = .ok (.iadd, 1) := by decide +kernel
theorem dL_law_2435 : decode cL_law 2435 = .ok (.iaload, 1) := by decide +kernel
theorem dL_law_2436 : decode cL_law 2436 = .ok (.aload_n 3, 1) := by decide +kernel
theorem dL_law_2437 : decode cL_law 2437 = .ok (.invokestatic 331, 3) := by decide +kernel
theorem dL_law_2440 : decode cL_law 2440 = .ok (.istore 5, 2) := by decide +kernel
theorem dL_law_2442 : decode cL_law 2442 = .ok (.aload_n 2, 1) := by decide +kernel
theorem dL_law_2443 : decode cL_law 2443 = .ok (.aload_n 0, 1) := by decide +kernel
theorem dL_law_2444 : decode cL_law 2444 = .ok (.iload 4, 2) := by decide +kernel
theorem dL_law_2446 : decode cL_law 2446 = .ok (.iconst 1, 1) := by decide +kernel
theorem dL_law_2447 : decode cL_law 2447 = .ok (.iadd, 1) := by decide +kernel
theorem dL_law_2448 : decode cL_law 2448 = .ok (.iaload, 1) := by decide +kernel
theorem dL_law_2449 : decode cL_law 2449 = .ok (.invokevirtual 333, 3) := by decide +kernel
theorem dL_law_2452 : decode cL_law 2452 = .ok (.istore 6, 2) := by decide +kernel
theorem dL_law_2454 : decode cL_law 2454 = .ok (.aload_n 2, 1) := by decide +kernel
theorem dL_law_2455 : decode cL_law 2455 = .ok (.invokevirtual 187, 3) := by decide +kernel
theorem dL_law_2458 : decode cL_law 2458 = .ok (.iload 5, 2) := by decide +kernel
theorem dL_law_2460 : decode cL_law 2460 = .ok (.if_icmp .eq 5, 3) := by decide +kernel
theorem dL_law_2465 : decode cL_law 2465 = .ok (.iload 5, 2) := by decide +kernel
theorem dL_law_2467 : decode cL_law 2467 = .ok (.ifCond .ne 15, 3) := by decide +kernel
theorem dL_law_2482 : decode cL_law 2482 = .ok (.goto 704, 3) := by decide +kernel
theorem dL_law_2485 : decode cL_law 2485 = .ok (.aload_n 1, 1) := by decide +kernel
theorem dL_law_2486 : decode cL_law 2486 = .ok (.aload_n 0, 1) := by decide +kernel
theorem dL_law_2487 : decode cL_law 2487 = .ok (.iload 4, 2) := by decide +kernel
theorem dL_law_2489 : decode cL_law 2489 = .ok (.iconst 1, 1) := by decide +kernel
theorem dL_law_2490 : decode cL_law 2490 = .ok (.iadd, 1) := by decide +kernel
theorem dL_law_2491 : decode cL_law 2491 = .ok (.iaload, 1) := by decide +kernel
theorem dL_law_2492 : decode cL_law 2492 = .ok (.aload_n 3, 1) := by decide +kernel
theorem dL_law_2493 : decode cL_law 2493 = .ok (.invokestatic 334, 3) := by decide +kernel
theorem dL_law_2496 : decode cL_law 2496 = .ok (.istore 5, 2) := by decide +kernel
theorem dL_law_2498 : decode cL_law 2498 = .ok (.aload_n 2, 1) := by decide +kernel
theorem dL_law_2499 : decode cL_law 2499 = .ok (.aload_n 0, 1) := by decide +kernel
theorem dL_law_2500 : decode cL_law 2500 = .ok (.iload 4, 2) := by decide +kernel
theorem dL_law_2502 : decode cL_law 2502 = .ok (.iconst 1, 1) := by decide +kernel
theorem dL_law_2503 : decode cL_law 2503 = .ok (.iadd, 1) := by decide +kernel
theorem dL_law_2504 : decode cL_law 2504 = .ok (.iaload, 1) := by decide +kernel
theorem dL_law_2505 : decode cL_law 2505 = .ok (.invokevirtual 336, 3) := by decide +kernel
theorem dL_law_2508 : decode cL_law 2508 = .ok (.istore 6, 2) := by decide +kernel
theorem dL_law_2510 : decode cL_law 2510 = .ok (.aload_n 2, 1) := by decide +kernel
theorem dL_law_2511 : decode cL_law 2511 = .ok (.invokevirtual 187, 3) := by decide +kernel
theorem dL_law_2514 : decode cL_law 2514 = .ok (.iload 5, 2) := by decide +kernel
theorem dL_law_2516 : decode cL_law 2516 = .ok (.if_icmp .eq 5, 3) := by decide +kernel
theorem dL_law_2521 : decode cL_law 2521 = .ok (.iload 5, 2) := by decide +kernel
theorem dL_law_2523 : decode cL_law 2523 = .ok (.ifCond .ne 15, 3) := by decide +kernel
theorem dL_law_2538 : decode cL_law 2538 = .ok (.goto 648, 3) := by decide +kernel
theorem dL_law_2541 : decode cL_law 2541 = .ok (.aload_n 1, 1) := by decide +kernel
theorem dL_law_2542 : decode cL_law 2542 = .ok (.aload_n 0, 1) := by decide +kernel
theorem dL_law_2543 : decode cL_law 2543 = .ok (.iload 4, 2) := by decide +kernel
theorem dL_law_2545 : decode cL_law 2545 = .ok (.iconst 1, 1) := by decide +kernel
theorem dL_law_2546 : decode cL_law 2546 = .ok (.iadd, 1) := by decide +kernel
theorem dL_law_2547 : decode cL_law 2547 = .ok (.iaload, 1) := by decide +kernel
theorem dL_law_2548 : decode cL_law 2548 = .ok (.aload_n 0, 1) := by decide +kernel
theorem dL_law_2549 : decode cL_law 2549 = .ok (.iload 4, 2) := by decide +kernel
theorem dL_law_2551 : decode cL_law 2551 = .ok (.iconst 2, 1) := by decide +kernel
theorem dL_law_2552 : decode cL_law 2552 = .ok (.iadd, 1) := by decide +kernel
theorem dL_law_2553 : decode cL_law 2553 = .ok (.iaload, 1) := by decide +kernel
theorem dL_law_2554 : decode cL_law 2554 = .ok (.aload_n 3, 1) := by decide +kernel
theorem dL_law_2555 : decode cL_law 2555 = .ok (.invokestatic 337, 3) := by decide +kernel
theorem dL_law_2558 : decode cL_law 2558 = .ok (.istore 5, 2) := by decide +kernel
theorem dL_law_2560 : decode cL_law 2560 = .ok (.aload_n 2, 1) := by decide +kernel
theorem dL_law_2561 : decode cL_law 2561 = .ok (.aload_n 0, 1) := by decide +kernel
theorem dL_law_2562 : decode cL_law 2562 = .ok (.iload 4, 2) := by decide +kernel
theorem dL_law_2564 : decode cL_law 2564 = .ok (.iconst 1, 1) := by decide +kernel
theorem dL_law_2565 : decode cL_law 2565 = .ok (.iadd, 1) := by decide +kernel
theorem dL_law_2566 : decode cL_law 2566 = .ok (.iaload, 1) := by decide +kernel
theorem dL_law_2567 : decode cL_law 2567 = .ok (.aload_n 0, 1) := by decide +kernel
theorem dL_law_2568 : decode cL_law 2568 = .ok (.iload 4, 2) := by decide +kernel
theorem dL_law_2570 : decode cL_law 2570 = .ok (.iconst 2, 1) := by decide +kernel
theorem dL_law_2571 : decode cL_law 2571 = .ok (.iadd, 1) := by decide +kernel
theorem dL_law_2572 : decode cL_law 2572 = .ok (.iaload, 1) := by decide +kernel
theorem dL_law_2573 : decode cL_law 2573 = .ok (.invokevirtual 339, 3) := by decide +kernel
theorem dL_law_2576 : decode cL_law 2576 = .ok (.istore 6, 2) := by decide +kernel
theorem dL_law_2578 : decode cL_law 2578 = .ok (.aload_n 2, 1) := by decide +kernel
theorem dL_law_2579 : decode cL_law 2579 = .ok (.invokevirtual 187, 3) := by decide +kernel
theorem dL_law_2582 : decode cL_law 2582 = .ok (.iload 5, 2) := by decide +kernel
theorem dL_law_2584 : decode cL_law 2584 = .ok (.if_icmp .eq 5, 3) := by decide +kernel
theorem dL_law_2589 : decode cL_law 2589 = .ok (.iload 5, 2) := by decide +kernel
theorem dL_law_2591 : decode cL_law 2591 = .ok (.ifCond .ne 15, 3) := by decide +kernel
theorem dL_law_2606 : decode cL_law 2606 = .ok (.goto 580, 3) := by decide +kernel
theorem dL_law_2609 : decode cL_law 2609 = .ok (.aload_n 1, 1) := by decide +kernel
theorem dL_law_2610 : decode cL_law 2610 = .ok (.aload_n 0, 1) := by decide +kernel
theorem dL_law_2611 : decode cL_law 2611 = .ok (.iload 4, 2) := by decide +kernel
theorem dL_law_2613 : decode cL_law 2613 = .ok (.iconst 1, 1) := by decide +kernel
theorem dL_law_2614 : decode cL_law 2614 = .ok (.iadd, 1) := by decide +kernel
theorem dL_law_2615 : decode cL_law 2615 = .ok (.iaload, 1) := by decide +kernel
theorem dL_law_2616 : decode cL_law 2616 = .ok (.aload_n 3, 1) := by decide +kernel
theorem dL_law_2617 : decode cL_law 2617 = .ok (.invokestatic 340, 3) := by decide +kernel
theorem dL_law_2620 : decode cL_law 2620 = .ok (.istore 5, 2) := by decide +kernel
theorem dL_law_2622 : decode cL_law 2622 = .ok (.aload_n 2, 1) := by decide +kernel
theorem dL_law_2623 : decode cL_law 2623 = .ok (.aload_n 0, 1) := by decide +kernel
theorem dL_law_2624 : decode cL_law 2624 = .ok (.iload 4, 2) := by decide +kernel
theorem dL_law_2626 : decode cL_law 2626 = .ok (.iconst 1, 1) := by decide +kernel
theorem dL_law_2627 : decode cL_law 2627 = .ok (.iadd, 1) := by decide +kernel
theorem dL_law_2628 : decode cL_law 2628 = .ok (.iaload, 1) := by decide +kernel
theorem dL_law_2629 : decode cL_law 2629 = .ok (.invokevirtual 342, 3) := by decide +kernel
theorem dL_law_2632 : decode cL_law 2632 = .ok (.istore 6, 2) := by decide +kernel
theorem dL_law_2634 : decode cL_law 2634 = .ok (.aload_n 2, 1) := by decide +kernel
theorem dL_law_2635 : decode cL_law 2635 = .ok (.invokevirtual 187, 3) := by decide +kernel
theorem dL_law_2638 : decode cL_law 2638 = .ok (.iload 5, 2) := by decide +kernel
theorem dL_law_2640 : decode cL_law 2640 = .ok (.if_icmp .eq 5, 3) := by decide +kernel
