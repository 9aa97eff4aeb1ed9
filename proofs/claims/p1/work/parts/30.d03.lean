set_option maxRecDepth 100000 in
theorem dL_law_2164 : decode code 2164 = .ok (.aload_n 0, 1) := by decide +kernel
set_option maxRecDepth 100000 in
theorem dL_law_2165 : decode code 2165 = .ok (.iload 4, 2) := by decide +kernel
set_option maxRecDepth 100000 in
theorem dL_law_2167 : decode code 2167 = .ok (.iconst 1, 1) := by decide +kernel
set_option maxRecDepth 100000 in
theorem dL_law_2168 : decode code 2168 = .ok (.iadd, 1) := by decide +kernel
set_option maxRecDepth 100000 in
theorem dL_law_2169 : decode code 2169 = .ok (.iaload, 1) := by decide +kernel
set_option maxRecDepth 100000 in
theorem dL_law_2170 : decode code 2170 = .ok (.aload_n 0, 1) := by decide +kernel
set_option maxRecDepth 100000 in
theorem dL_law_2171 : decode code 2171 = .ok (.iload 4, 2) := by decide +kernel
set_option maxRecDepth 100000 in
theorem dL_law_2173 : decode code 2173 = .ok (.iconst 2, 1) := by decide +kernel
set_option maxRecDepth 100000 in
theorem dL_law_2174 : decode code 2174 = .ok (.iadd, 1) := by decide +kernel
set_option maxRecDepth 100000 in
theorem dL_law_2175 : decode code 2175 = .ok (.iaload, 1) := by decide +kernel
set_option maxRecDepth 100000 in
theorem dL_law_2176 : decode code 2176 = .ok (.aload_n 0, 1) := by decide +kernel
set_option maxRecDepth 100000 in
theorem dL_law_2177 : decode code 2177 = .ok (.iload 4, 2) := by decide +kernel
set_option maxRecDepth 100000 in
theorem dL_law_2179 : decode code 2179 = .ok (.iconst 3, 1) := by decide +kernel
set_option maxRecDepth 100000 in
theorem dL_law_2180 : decode code 2180 = .ok (.iadd, 1) := by decide +kernel
set_option maxRecDepth 100000 in
theorem dL_law_2181 : decode code 2181 = .ok (.iaload, 1) := by decide +kernel
set_option maxRecDepth 100000 in
theorem dL_law_2182 : decode code 2182 = .ok (.aload_n 0, 1) := by decide +kernel
set_option maxRecDepth 100000 in
theorem dL_law_2183 : decode code 2183 = .ok (.iload 4, 2) := by decide +kernel
set_option maxRecDepth 100000 in
theorem dL_law_2185 : decode code 2185 = .ok (.iconst 4, 1) := by decide +kernel
set_option maxRecDepth 100000 in
theorem dL_law_2186 : decode code 2186 = .ok (.iadd, 1) := by decide +kernel
set_option maxRecDepth 100000 in
theorem dL_law_2187 : decode code 2187 = .ok (.iaload, 1) := by decide +kernel
set_option maxRecDepth 100000 in
theorem dL_law_2188 : decode code 2188 = .ok (.invokevirtual 292, 3) := by decide +kernel
set_option maxRecDepth 100000 in
theorem dL_law_2191 : decode code 2191 = .ok (.istore 6, 2) := by decide +kernel
set_option maxRecDepth 100000 in
theorem dL_law_2193 : decode code 2193 = .ok (.aload_n 2, 1) := by decide +kernel
set_option maxRecDepth 100000 in
theorem dL_law_2194 : decode code 2194 = .ok (.invokevirtual 197, 3) := by decide +kernel
set_option maxRecDepth 100000 in
theorem dL_law_2197 : decode code 2197 = .ok (.iload 5, 2) := by decide +kernel
set_option maxRecDepth 100000 in
theorem dL_law_2199 : decode code 2199 = .ok (.if_icmp .eq 5, 3) := by decide +kernel
set_option maxRecDepth 100000 in
theorem dL_law_2204 : decode code 2204 = .ok (.iload 5, 2) := by decide +kernel
set_option maxRecDepth 100000 in
theorem dL_law_2206 : decode code 2206 = .ok (.ifCond .ne 22, 3) := by decide +kernel
set_option maxRecDepth 100000 in
theorem dL_law_2228 : decode code 2228 = .ok (.goto 1871, 3) := by decide +kernel
set_option maxRecDepth 100000 in
theorem dL_law_2231 : decode code 2231 = .ok (.aload_n 1, 1) := by decide +kernel
set_option maxRecDepth 100000 in
theorem dL_law_2232 : decode code 2232 = .ok (.aload_n 0, 1) := by decide +kernel
set_option maxRecDepth 100000 in
theorem dL_law_2233 : decode code 2233 = .ok (.iload 4, 2) := by decide +kernel
set_option maxRecDepth 100000 in
theorem dL_law_2235 : decode code 2235 = .ok (.iconst 1, 1) := by decide +kernel
set_option maxRecDepth 100000 in
theorem dL_law_2236 : decode code 2236 = .ok (.iadd, 1) := by decide +kernel
set_option maxRecDepth 100000 in
theorem dL_law_2237 : decode code 2237 = .ok (.iaload, 1) := by decide +kernel
set_option maxRecDepth 100000 in
theorem dL_law_2238 : decode code 2238 = .ok (.aload_n 0, 1) := by decide +kernel
set_option maxRecDepth 100000 in
theorem dL_law_2239 : decode code 2239 = .ok (.iload 4, 2) := by decide +kernel
set_option maxRecDepth 100000 in
theorem dL_law_2241 : decode code 2241 = .ok (.iconst 2, 1) := by decide +kernel
set_option maxRecDepth 100000 in
theorem dL_law_2242 : decode code 2242 = .ok (.iadd, 1) := by decide +kernel
set_option maxRecDepth 100000 in
theorem dL_law_2243 : decode code 2243 = .ok (.iaload, 1) := by decide +kernel
set_option maxRecDepth 100000 in
theorem dL_law_2244 : decode code 2244 = .ok (.aload_n 3, 1) := by decide +kernel
set_option maxRecDepth 100000 in
theorem dL_law_2245 : decode code 2245 = .ok (.invokestatic 293, 3) := by decide +kernel
set_option maxRecDepth 100000 in
theorem dL_law_2248 : decode code 2248 = .ok (.istore 5, 2) := by decide +kernel
set_option maxRecDepth 100000 in
theorem dL_law_2250 : decode code 2250 = .ok (.aload_n 2, 1) := by decide +kernel
set_option maxRecDepth 100000 in
theorem dL_law_2251 : decode code 2251 = .ok (.aload_n 0, 1) := by decide +kernel
set_option maxRecDepth 100000 in
theorem dL_law_2252 : decode code 2252 = .ok (.iload 4, 2) := by decide +kernel
set_option maxRecDepth 100000 in
theorem dL_law_2254 : decode code 2254 = .ok (.iconst 1, 1) := by decide +kernel
set_option maxRecDepth 100000 in
theorem dL_law_2255 : decode code 2255 = .ok (.iadd, 1) := by decide +kernel
set_option maxRecDepth 100000 in
theorem dL_law_2256 : decode code 2256 = .ok (.iaload, 1) := by decide +kernel
set_option maxRecDepth 100000 in
theorem dL_law_2257 : decode code 2257 = .ok (.aload_n 0, 1) := by decide +kernel
set_option maxRecDepth 100000 in
theorem dL_law_2258 : decode code 2258 = .ok (.iload 4, 2) := by decide +kernel
set_option maxRecDepth 100000 in
theorem dL_law_2260 : decode code 2260 = .ok (.iconst 2, 1) := by decide +kernel
set_option maxRecDepth 100000 in
theorem dL_law_2261 : decode code 2261 = .ok (.iadd, 1) := by decide +kernel
set_option maxRecDepth 100000 in
theorem dL_law_2262 : decode code 2262 = .ok (.iaload, 1) := by decide +kernel
set_option maxRecDepth 100000 in
theorem dL_law_2263 : decode code 2263 = .ok (.invokevirtual 295, 3) := by decide +kernel
set_option maxRecDepth 100000 in
theorem dL_law_2266 : decode code 2266 = .ok (.istore 6, 2) := by decide +kernel
set_option maxRecDepth 100000 in
theorem dL_law_2268 : decode code 2268 = .ok (.aload_n 2, 1) := by decide +kernel
set_option maxRecDepth 100000 in
theorem dL_law_2269 : decode code 2269 = .ok (.invokevirtual 197, 3) := by decide +kernel
set_option maxRecDepth 100000 in
theorem dL_law_2272 : decode code 2272 = .ok (.iload 5, 2) := by decide +kernel
set_option maxRecDepth 100000 in
theorem dL_law_2274 : decode code 2274 = .ok (.if_icmp .eq 5, 3) := by decide +kernel
set_option maxRecDepth 100000 in
theorem dL_law_2279 : decode code 2279 = .ok (.iload 5, 2) := by decide +kernel
set_option maxRecDepth 100000 in
theorem dL_law_2281 : decode code 2281 = .ok (.ifCond .ne 15, 3) := by decide +kernel
set_option maxRecDepth 100000 in
theorem dL_law_2296 : decode code 2296 = .ok (.goto 1803, 3) := by decide +kernel
set_option maxRecDepth 100000 in
theorem dL_law_2299 : decode code 2299 = .ok (.aload_n 1, 1) := by decide +kernel
set_option maxRecDepth 100000 in
theorem dL_law_2300 : decode code 2300 = .ok (.aload_n 0, 1) := by decide +kernel
set_option maxRecDepth 100000 in
theorem dL_law_2301 : decode code 2301 = .ok (.iload 4, 2) := by decide +kernel
set_option maxRecDepth 100000 in
theorem dL_law_2303 : decode code 2303 = .ok (.iconst 1, 1) := by decide +kernel
set_option maxRecDepth 100000 in
theorem dL_law_2304 : decode code 2304 = .ok (.iadd, 1) := by decide +kernel
set_option maxRecDepth 100000 in
theorem dL_law_2305 : decode code 2305 = .ok (.iaload, 1) := by decide +kernel
set_option maxRecDepth 100000 in
theorem dL_law_2306 : decode code 2306 = .ok (.aload_n 0, 1) := by decide +kernel
set_option maxRecDepth 100000 in
theorem dL_law_2307 : decode code 2307 = .ok (.iload 4, 2) := by decide +kernel
set_option maxRecDepth 100000 in
theorem dL_law_2309 : decode code 2309 = .ok (.iconst 2, 1) := by decide +kernel
set_option maxRecDepth 100000 in
theorem dL_law_2310 : decode code 2310 = .ok (.iadd, 1) := by decide +kernel
set_option maxRecDepth 100000 in
theorem dL_law_2311 : decode code 2311 = .ok (.iaload, 1) := by decide +kernel
set_option maxRecDepth 100000 in
theorem dL_law_2312 : decode code 2312 = .ok (.aload_n 3, 1) := by decide +kernel
set_option maxRecDepth 100000 in
theorem dL_law_2313 : decode code 2313 = .ok (.invokestatic 296, 3) := by decide +kernel
set_option maxRecDepth 100000 in
theorem dL_law_2316 : decode code 2316 = .ok (.istore 5, 2) := by decide +kernel
set_option maxRecDepth 100000 in
theorem dL_law_2318 : decode code 2318 = .ok (.aload_n 2, 1) := by decide +kernel
set_option maxRecDepth 100000 in
theorem dL_law_2319 : decode code 2319 = .ok (.aload_n 0, 1) := by decide +kernel
set_option maxRecDepth 100000 in
theorem dL_law_2320 : decode code 2320 = .ok (.iload 4, 2) := by decide +kernel
set_option maxRecDepth 100000 in
theorem dL_law_2322 : decode code 2322 = .ok (.iconst 1, 1) := by decide +kernel
set_option maxRecDepth 100000 in
theorem dL_law_2323 : decode code 2323 = .ok (.iadd, 1) := by decide +kernel
set_option maxRecDepth 100000 in
theorem dL_law_2324 : decode code 2324 = .ok (.iaload, 1) := by decide +kernel
set_option maxRecDepth 100000 in
theorem dL_law_2325 : decode code 2325 = .ok (.aload_n 0, 1) := by decide +kernel
set_option maxRecDepth 100000 in
theorem dL_law_2326 : decode code 2326 = .ok (.iload 4, 2) := by decide +kernel
set_option maxRecDepth 100000 in
theorem dL_law_2328 : decode code 2328 = .ok (.iconst 2, 1) := by decide +kernel
set_option maxRecDepth 100000 in
theorem dL_law_2329 : decode code 2329 = .ok (.iadd, 1) := by decide +kernel
set_option maxRecDepth 100000 in
theorem dL_law_2330 : decode code 2330 = .ok (.iaload, 1) := by decide +kernel
set_option maxRecDepth 100000 in
theorem dL_law_2331 : decode code 2331 = .ok (.invokevirtual 298, 3) := by decide +kernel
set_option maxRecDepth 100000 in
theorem dL_law_2334 : decode code 2334 = .ok (.istore 6, 2) := by decide +kernel
set_option maxRecDepth 100000 in
theorem dL_law_2336 : decode code 2336 = .ok (.aload_n 2, 1) := by decide +kernel
set_option maxRecDepth 100000 in
theorem dL_law_2337 : decode code 2337 = .ok (.invokevirtual 197, 3) := by decide +kernel
set_option maxRecDepth 100000 in
theorem dL_law_2340 : decode code 2340 = .ok (.iload 5, 2) := by decide +kernel
set_option maxRecDepth 100000 in
theorem dL_law_2342 : decode code 2342 = .ok (.if_icmp .eq 5, 3) := by decide +kernel
set_option maxRecDepth 100000 in
theorem dL_law_2347 : decode code 2347 = .ok (.iload 5, 2) := by decide +kernel
set_option maxRecDepth 100000 in
theorem dL_law_2349 : decode code 2349 = .ok (.ifCond .ne 15, 3) := by decide +kernel
set_option maxRecDepth 100000 in
theorem dL_law_2364 : decode code 2364 = .ok (.goto 1735, 3) := by decide +kernel
set_option maxRecDepth 100000 in
theorem dL_law_2367 : decode code 2367 = .ok (.aload_n 1, 1) := by decide +kernel
set_option maxRecDepth 100000 in
theorem dL_law_2368 : decode code 2368 = .ok (.aload_n 0, 1) := by decide +kernel
set_option maxRecDepth 100000 in
theorem dL_law_2369 : decode code 2369 = .ok (.iload 4, 2) := by decide +kernel
set_option maxRecDepth 100000 in
theorem dL_law_2371 : decode code 2371 = .ok (.iconst 1, 1) := by decide +kernel
set_option maxRecDepth 100000 in
theorem dL_law_2372 : decode code 2372 = .ok (.iadd, 1) := by decide +kernel
set_option maxRecDepth 100000 in
theorem dL_law_2373 : decode code 2373 = .ok (.iaload, 1) := by decide +kernel
set_option maxRecDepth 100000 in
theorem dL_law_2374 : decode code 2374 = .ok (.aload_n 0, 1) := by decide +kernel
set_option maxRecDepth 100000 in
theorem dL_law_2375 : decode code 2375 = .ok (.iload 4, 2) := by decide +kernel
set_option maxRecDepth 100000 in
theorem dL_law_2377 : decode code 2377 = .ok (.iconst 2, 1) := by decide +kernel
set_option maxRecDepth 100000 in
theorem dL_law_2378 : decode code 2378 = .ok (.iadd, 1) := by decide +kernel
set_option maxRecDepth 100000 in
theorem dL_law_2379 : decode code 2379 = .ok (.iaload, 1) := by decide +kernel
set_option maxRecDepth 100000 in
theorem dL_law_2380 : decode code 2380 = .ok (.aload_n 3, 1) := by decide +kernel
set_option maxRecDepth 100000 in
theorem dL_law_2381 : decode code 2381 = .ok (.invokestatic 299, 3) := by decide +kernel
set_option maxRecDepth 100000 in
theorem dL_law_2384 : decode code 2384 = .ok (.istore 5, 2) := by decide +kernel
set_option maxRecDepth 100000 in
theorem dL_law_2386 : decode code 2386 = .ok (.aload_n 2, 1) := by decide +kernel
set_option maxRecDepth 100000 in
theorem dL_law_2387 : decode code 2387 = .ok (.aload_n 0, 1) := by decide +kernel
set_option maxRecDepth 100000 in
theorem dL_law_2388 : decode code 2388 = .ok (.iload 4, 2) := by decide +kernel
set_option maxRecDepth 100000 in
theorem dL_law_2390 : decode code 2390 = .ok (.iconst 1, 1) := by decide +kernel
set_option maxRecDepth 100000 in
theorem dL_law_2391 : decode code 2391 = .ok (.iadd, 1) := by decide +kernel
set_option maxRecDepth 100000 in
theorem dL_law_2392 : decode code 2392 = .ok (.iaload, 1) := by decide +kernel
set_option maxRecDepth 100000 in
theorem dL_law_2393 : decode code 2393 = .ok (.aload_n 0, 1) := by decide +kernel
set_option maxRecDepth 100000 in
theorem dL_law_2394 : decode code 2394 = .ok (.iload 4, 2) := by decide +kernel
set_option maxRecDepth 100000 in
theorem dL_law_2396 : decode code 2396 = .ok (.iconst 2, 1) := by decide +kernel
set_option maxRecDepth 100000 in
theorem dL_law_2397 : decode code 2397 = .ok (.iadd, 1) := by decide +kernel
set_option maxRecDepth 100000 in
theorem dL_law_2398 : decode code 2398 = .ok (.iaload, 1) := by decide +kernel
set_option maxRecDepth 100000 in
theorem dL_law_2399 : decode code 2399 = .ok (.invokevirtual 301, 3) := by decide +kernel
set_option maxRecDepth 100000 in
theorem dL_law_2402 : decode code 2402 = .ok (.istore 6, 2) := by decide +kernel
set_option maxRecDepth 100000 in
theorem dL_law_2404 : decode code 2404 = .ok (.aload_n 2, 1) := by decide +kernel
set_option maxRecDepth 100000 in
theorem dL_law_2405 : decode code 2405 = .ok (.invokevirtual 197, 3) := by decide +kernel
set_option maxRecDepth 100000 in
theorem dL_law_2408 : decode code 2408 = .ok (.iload 5, 2) := by decide +kernel
set_option maxRecDepth 100000 in
theorem dL_law_2410 : decode code 2410 = .ok (.if_icmp .eq 5, 3) := by decide +kernel
set_option maxRecDepth 100000 in
theorem dL_law_2415 : decode code 2415 = .ok (.iload 5, 2) := by decide +kernel
set_option maxRecDepth 100000 in
theorem dL_law_2417 : decode code 2417 = .ok (.ifCond .ne 15, 3) := by decide +kernel
set_option maxRecDepth 100000 in
theorem dL_law_2432 : decode code 2432 = .ok (.goto 1667, 3) := by decide +kernel
set_option maxRecDepth 100000 in
theorem dL_law_2435 : decode code 2435 = .ok (.aload_n 1, 1) := by decide +kernel
set_option maxRecDepth 100000 in
theorem dL_law_2436 : decode code 2436 = .ok (.aload_n 0, 1) := by decide +kernel
set_option maxRecDepth 100000 in
theorem dL_law_2437 : decode code 2437 = .ok (.iload 4, 2) := by decide +kernel
set_option maxRecDepth 100000 in
theorem dL_law_2439 : decode code 2439 = .ok (.iconst 1, 1) := by decide +kernel
set_option maxRecDepth 100000 in
theorem dL_law_2440 : decode code 2440 = .ok (.iadd, 1) := by decide +kernel
set_option maxRecDepth 100000 in
theorem dL_law_2441 : decode code 2441 = .ok (.iaload, 1) := by decide +kernel
set_option maxRecDepth 100000 in
theorem dL_law_2442 : decode code 2442 = .ok (.aload_n 0, 1) := by decide +kernel
set_option maxRecDepth 100000 in
theorem dL_law_2443 : decode code 2443 = .ok (.iload 4, 2) := by decide +kernel
set_option maxRecDepth 100000 in
theorem dL_law_2445 : decode code 2445 = .ok (.iconst 2, 1) := by decide +kernel
set_option maxRecDepth 100000 in
theorem dL_law_2446 : decode code 2446 = .ok (.iadd, 1) := by decide +kernel
set_option maxRecDepth 100000 in
theorem dL_law_2447 : decode code 2447 = .ok (.iaload, 1) := by decide +kernel
set_option maxRecDepth 100000 in
theorem dL_law_2448 : decode code 2448 = .ok (.aload_n 3, 1) := by decide +kernel
set_option maxRecDepth 100000 in
theorem dL_law_2449 : decode code 2449 = .ok (.invokestatic 302, 3) := by decide +kernel
set_option maxRecDepth 100000 in
theorem dL_law_2452 : decode code 2452 = .ok (.istore 5, 2) := by decide +kernel
set_option maxRecDepth 100000 in
theorem dL_law_2454 : decode code 2454 = .ok (.aload_n 2, 1) := by decide +kernel
set_option maxRecDepth 100000 in
theorem dL_law_2455 : decode code 2455 = .ok (.aload_n 0, 1) := by decide +kernel
set_option maxRecDepth 100000 in
theorem dL_law_2456 : decode code 2456 = .ok (.iload 4, 2) := by decide +kernel
set_option maxRecDepth 100000 in
theorem dL_law_2458 : decode code 2458 = .ok (.iconst 1, 1) := by decide +kernel
set_option maxRecDepth 100000 in
theorem dL_law_2459 : decode code 2459 = .ok (.iadd, 1) := by decide +kernel
set_option maxRecDepth 100000 in
theorem dL_law_2460 : decode code 2460 = .ok (.iaload, 1) := by decide +kernel
set_option maxRecDepth 100000 in
theorem dL_law_2461 : decode code 2461 = .ok (.aload_n 0, 1) := by decide +kernel
set_option maxRecDepth 100000 in
theorem dL_law_2462 : decode code 2462 = .ok (.iload 4, 2) := by decide +kernel
set_option maxRecDepth 100000 in
theorem dL_law_2464 : decode code 2464 = .ok (.iconst 2, 1) := by decide +kernel
set_option maxRecDepth 100000 in
theorem dL_law_2465 : decode code 2465 = .ok (.iadd, 1) := by decide +kernel
set_option maxRecDepth 100000 in
theorem dL_law_2466 : decode code 2466 = .ok (.iaload, 1) := by decide +kernel
set_option maxRecDepth 100000 in
theorem dL_law_2467 : decode code 2467 = .ok (.invokevirtual 304, 3) := by decide +kernel
set_option maxRecDepth 100000 in
theorem dL_law_2470 : decode code 2470 = .ok (.istore 6, 2) := by decide +kernel
set_option maxRecDepth 100000 in
theorem dL_law_2472 : decode code 2472 = .ok (.aload_n 2, 1) := by decide +kernel
set_option maxRecDepth 100000 in
theorem dL_law_2473 : decode code 2473 = .ok (.invokevirtual 197, 3) := by decide +kernel
set_option maxRecDepth 100000 in
theorem dL_law_2476 : decode code 2476 = .ok (.iload 5, 2) := by decide +kernel
set_option maxRecDepth 100000 in
theorem dL_law_2478 : decode code 2478 = .ok (.if_icmp .eq 5, 3) := by decide +kernel
set_option maxRecDepth 100000 in
theorem dL_law_2483 : decode code 2483 = .ok (.iload 5, 2) := by decide +kernel
set_option maxRecDepth 100000 in
theorem dL_law_2485 : decode code 2485 = .ok (.ifCond .ne 15, 3) := by decide +kernel
set_option maxRecDepth 100000 in
theorem dL_law_2500 : decode code 2500 = .ok (.goto 1599, 3) := by decide +kernel
set_option maxRecDepth 100000 in
theorem dL_law_2503 : decode code 2503 = .ok (.aload_n 1, 1) := by decide +kernel
set_option maxRecDepth 100000 in
theorem dL_law_2504 : decode code 2504 = .ok (.aload_n 0, 1) := by decide +kernel
set_option maxRecDepth 100000 in
theorem dL_law_2505 : decode code 2505 = .ok (.iload 4, 2) := by decide +kernel
set_option maxRecDepth 100000 in
theorem dL_law_2507 : decode code 2507 = .ok (.iconst 1, 1) := by decide +kernel
set_option maxRecDepth 100000 in
theorem dL_law_2508 : decode code 2508 = .ok (.iadd, 1) := by decide +kernel
set_option maxRecDepth 100000 in
theorem dL_law_2509 : decode code 2509 = .ok (.iaload, 1) := by decide +kernel
set_option maxRecDepth 100000 in
theorem dL_law_2510 : decode code 2510 = .ok (.aload_n 0, 1) := by decide +kernel
set_option maxRecDepth 100000 in
theorem dL_law_2511 : decode code 2511 = .ok (.iload 4, 2) := by decide +kernel
set_option maxRecDepth 100000 in
theorem dL_law_2513 : decode code 2513 = .ok (.iconst 2, 1) := by decide +kernel
set_option maxRecDepth 100000 in
theorem dL_law_2514 : decode code 2514 = .ok (.iadd, 1) := by decide +kernel
set_option maxRecDepth 100000 in
theorem dL_law_2515 : decode code 2515 = .ok (.iaload, 1) := by decide +kernel
set_option maxRecDepth 100000 in
theorem dL_law_2516 : decode code 2516 = .ok (.aload_n 0, 1) := by decide +kernel
set_option maxRecDepth 100000 in
theorem dL_law_2517 : decode code 2517 = .ok (.iload 4, 2) := by decide +kernel
set_option maxRecDepth 100000 in
theorem dL_law_2519 : decode code 2519 = .ok (.iconst 3, 1) := by decide +kernel
set_option maxRecDepth 100000 in
theorem dL_law_2520 : decode code 2520 = .ok (.iadd, 1) := by decide +kernel
set_option maxRecDepth 100000 in
theorem dL_law_2521 : decode code 2521 = .ok (.iaload, 1) := by decide +kernel
set_option maxRecDepth 100000 in
theorem dL_law_2522 : decode code 2522 = .ok (.aload_n 3, 1) := by decide +kernel
set_option maxRecDepth 100000 in
theorem dL_law_2523 : decode code 2523 = .ok (.invokestatic 305, 3) := by decide +kernel
set_option maxRecDepth 100000 in
theorem dL_law_2526 : decode code 2526 = .ok (.istore 5, 2) := by decide +kernel
set_option maxRecDepth 100000 in
theorem dL_law_2528 : decode code 2528 = .ok (.aload_n 2, 1) := by decide +kernel
set_option maxRecDepth 100000 in
theorem dL_law_2529 : decode code 2529 = .ok (.aload_n 0, 1) := by decide +kernel
set_option maxRecDepth 100000 in
theorem dL_law_2530 : decode code 2530 = .ok (.iload 4, 2) := by decide +kernel
set_option maxRecDepth 100000 in
theorem dL_law_2532 : decode code 2532 = .ok (.iconst 1, 1) := by decide +kernel
set_option maxRecDepth 100000 in
theorem dL_law_2533 : decode code 2533 = .ok (.iadd, 1) := by decide +kernel
set_option maxRecDepth 100000 in
theorem dL_law_2534 : decode code 2534 = .ok (.iaload, 1) := by decide +kernel
set_option maxRecDepth 100000 in
theorem dL_law_2535 : decode code 2535 = .ok (.aload_n 0, 1) := by decide +kernel
set_option maxRecDepth 100000 in
theorem dL_law_2536 : decode code 2536 = .ok (.iload 4, 2) := by decide +kernel
set_option maxRecDepth 100000 in
theorem dL_law_2538 : decode code 2538 = .ok (.iconst 2, 1) := by decide +kernel
set_option maxRecDepth 100000 in
theorem dL_law_2539 : decode code 2539 = .ok (.iadd, 1) := by decide +kernel
set_option maxRecDepth 100000 in
theorem dL_law_2540 : decode code 2540 = .ok (.iaload, 1) := by decide +kernel
set_option maxRecDepth 100000 in
theorem dL_law_2541 : decode code 2541 = .ok (.aload_n 0, 1) := by decide +kernel
set_option maxRecDepth 100000 in
theorem dL_law_2542 : decode code 2542 = .ok (.iload 4, 2) := by decide +kernel
set_option maxRecDepth 100000 in
theorem dL_law_2544 : decode code 2544 = .ok (.iconst 3, 1) := by decide +kernel
set_option maxRecDepth 100000 in
theorem dL_law_2545 : decode code 2545 = .ok (.iadd, 1) := by decide +kernel
set_option maxRecDepth 100000 in
theorem dL_law_2546 : decode code 2546 = .ok (.iaload, 1) := by decide +kernel
set_option maxRecDepth 100000 in
theorem dL_law_2547 : decode code 2547 = .ok (.invokevirtual 307, 3) := by decide +kernel
set_option maxRecDepth 100000 in
theorem dL_law_2550 : decode code 2550 = .ok (.istore 6, 2) := by decide +kernel
set_option maxRecDepth 100000 in
theorem dL_law_2552 : decode code 2552 = .ok (.aload_n 2, 1) := by decide +kernel
set_option maxRecDepth 100000 in
theorem dL_law_2553 : decode code 2553 = .ok (.invokevirtual 197, 3) := by decide +kernel
set_option maxRecDepth 100000 in
theorem dL_law_2556 : decode code 2556 = .ok (.iload 5, 2) := by decide +kernel
set_option maxRecDepth 100000 in
theorem dL_law_2558 : decode code 2558 = .ok (.if_icmp .eq 5, 3) := by decide +kernel
set_option maxRecDepth 100000 in
theorem dL_law_2563 : decode code 2563 = .ok (.iload 5, 2) := by decide +kernel
set_option maxRecDepth 100000 in
theorem dL_law_2565 : decode code 2565 = .ok (.ifCond .ne 15, 3) := by decide +kernel
set_option maxRecDepth 100000 in
theorem dL_law_2580 : decode code 2580 = .ok (.goto 1519, 3) := by decide +kernel
set_option maxRecDepth 100000 in
theorem dL_law_2583 : decode code 2583 = .ok (.aload_n 1, 1) := by decide +kernel
set_option maxRecDepth 100000 in
theorem dL_law_2584 : decode code 2584 = .ok (.aload_n 0, 1) := by decide +kernel
set_option maxRecDepth 100000 in
theorem dL_law_2585 : decode code 2585 = .ok (.iload 4, 2) := by decide +kernel
set_option maxRecDepth 100000 in
theorem dL_law_2587 : decode code 2587 = .ok (.iconst 1, 1) := by decide +kernel
set_option maxRecDepth 100000 in
theorem dL_law_2588 : decode code 2588 = .ok (.iadd, 1) := by decide +kernel
set_option maxRecDepth 100000 in
theorem dL_law_2589 : decode code 2589 = .ok (.iaload, 1) := by decide +kernel
set_option maxRecDepth 100000 in
theorem dL_law_2590 : decode code 2590 = .ok (.aload_n 3, 1) := by decide +kernel
set_option maxRecDepth 100000 in
theorem dL_law_2591 : decode code 2591 = .ok (.invokestatic 308, 3) := by decide +kernel
set_option maxRecDepth 100000 in
theorem dL_law_2594 : decode code 2594 = .ok (.istore 5, 2) := by decide +kernel
set_option maxRecDepth 100000 in
theorem dL_law_2596 : decode code 2596 = .ok (.aload_n 2, 1) := by decide +kernel
set_option maxRecDepth 100000 in
theorem dL_law_2597 : decode code 2597 = .ok (.aload_n 0, 1) := by decide +kernel
set_option maxRecDepth 100000 in
theorem dL_law_2598 : decode code 2598 = .ok (.iload 4, 2) := by decide +kernel
set_option maxRecDepth 100000 in
theorem dL_law_2600 : decode code 2600 = .ok (.iconst 1, 1) := by decide +kernel
set_option maxRecDepth 100000 in
theorem dL_law_2601 : decode code 2601 = .ok (.iadd, 1) := by decide +kernel
set_option maxRecDepth 100000 in
theorem dL_law_2602 : decode code 2602 = .ok (.iaload, 1) := by decide +kernel
set_option maxRecDepth 100000 in
theorem dL_law_2603 : decode code 2603 = .ok (.invokevirtual 310, 3) := by decide +kernel
set_option maxRecDepth 100000 in
theorem dL_law_2606 : decode code 2606 = .ok (.istore 6, 2) := by decide +kernel
set_option maxRecDepth 100000 in
theorem dL_law_2608 : decode code 2608 = .ok (.aload_n 2, 1) := by decide +kernel
set_option maxRecDepth 100000 in
theorem dL_law_2609 : decode code 2609 = .ok (.invokevirtual 197, 3) := by decide +kernel
set_option maxRecDepth 100000 in
theorem dL_law_2612 : decode code 2612 = .ok (.iload 5, 2) := by decide +kernel
set_option maxRecDepth 100000 in
theorem dL_law_2614 : decode code 2614 = .ok (.if_icmp .eq 5, 3) := by decide +kernel
set_option maxRecDepth 100000 in
theorem dL_law_2619 : decode code 2619 = .ok (.iload 5, 2) := by decide +kernel
set_option maxRecDepth 100000 in
theorem dL_law_2621 : decode code 2621 = .ok (.ifCond .ne 15, 3) := by decide +kernel
set_option maxRecDepth 100000 in
theorem dL_law_2636 : decode code 2636 = .ok (.goto 1463, 3) := by decide +kernel
set_option maxRecDepth 100000 in
theorem dL_law_2639 : decode code 2639 = .ok (.aload_n 1, 1) := by decide +kernel
set_option maxRecDepth 100000 in
theorem dL_law_2640 : decode code 2640 = .ok (.aload_n 0, 1) := by decide +kernel
set_option maxRecDepth 100000 in
theorem dL_law_2641 : decode code 2641 = .ok (.iload 4, 2) := by decide +kernel
set_option maxRecDepth 100000 in
theorem dL_law_2643 : decode code 2643 = .ok (.iconst 1, 1) := by decide +kernel
set_option maxRecDepth 100000 in
theorem dL_law_2644 : decode code 2644 = .ok (.iadd, 1) := by decide +kernel
set_option maxRecDepth 100000 in
theorem dL_law_2645 : decode code 2645 = .ok (.iaload, 1) := by decide +kernel
set_option maxRecDepth 100000 in
theorem dL_law_2646 : decode code 2646 = .ok (.aload_n 0, 1) := by decide +kernel
set_option maxRecDepth 100000 in
theorem dL_law_2647 : decode code 2647 = .ok (.iload 4, 2) := by decide +kernel
set_option maxRecDepth 100000 in
theorem dL_law_2649 : decode code 2649 = .ok (.iconst 2, 1) := by decide +kernel
set_option maxRecDepth 100000 in
theorem dL_law_2650 : decode code 2650 = .ok (.iadd, 1) := by decide +kernel
set_option maxRecDepth 100000 in
theorem dL_law_2651 : decode code 2651 = .ok (.iaload, 1) := by decide +kernel
set_option maxRecDepth 100000 in
theorem dL_law_2652 : decode code 2652 = .ok (.aload_n 0, 1) := by decide +kernel
set_option maxRecDepth 100000 in
theorem dL_law_2653 : decode code 2653 = .ok (.iload 4, 2) := by decide +kernel
set_option maxRecDepth 100000 in
theorem dL_law_2655 : decode code 2655 = .ok (.iconst 3, 1) := by decide +kernel
set_option maxRecDepth 100000 in
theorem dL_law_2656 : decode code 2656 = .ok (.iadd, 1) := by decide +kernel
set_option maxRecDepth 100000 in
theorem dL_law_2657 : decode code 2657 = .ok (.iaload, 1) := by decide +kernel
set_option maxRecDepth 100000 in
theorem dL_law_2658 : decode code 2658 = .ok (.aload_n 3, 1) := by decide +kernel
set_option maxRecDepth 100000 in
theorem dL_law_2659 : decode code 2659 = .ok (.invokestatic 311, 3) := by decide +kernel
set_option maxRecDepth 100000 in
theorem dL_law_2662 : decode code 2662 = .ok (.istore 5, 2) := by decide +kernel
set_option maxRecDepth 100000 in
theorem dL_law_2664 : decode code 2664 = .ok (.aload_n 2, 1) := by decide +kernel
set_option maxRecDepth 100000 in
theorem dL_law_2665 : decode code 2665 = .ok (.aload_n 0, 1) := by decide +kernel
set_option maxRecDepth 100000 in
theorem dL_law_2666 : decode code 2666 = .ok (.iload 4, 2) := by decide +kernel
set_option maxRecDepth 100000 in
theorem dL_law_2668 : decode code 2668 = .ok (.iconst 1, 1) := by decide +kernel
set_option maxRecDepth 100000 in
theorem dL_law_2669 : decode code 2669 = .ok (.iadd, 1) := by decide +kernel
set_option maxRecDepth 100000 in
theorem dL_law_2670 : decode code 2670 = .ok (.iaload, 1) := by decide +kernel
set_option maxRecDepth 100000 in
theorem dL_law_2671 : decode code 2671 = .ok (.aload_n 0, 1) := by decide +kernel
set_option maxRecDepth 100000 in
theorem dL_law_2672 : decode code 2672 = .ok (.iload 4, 2) := by decide +kernel
set_option maxRecDepth 100000 in
theorem dL_law_2674 : decode code 2674 = .ok (.iconst 2, 1) := by decide +kernel
set_option maxRecDepth 100000 in
theorem dL_law_2675 : decode code 2675 = .ok (.iadd, 1) := by decide +kernel
set_option maxRecDepth 100000 in
theorem dL_law_2676 : decode code 2676 = .ok (.iaload, 1) := by decide +kernel
set_option maxRecDepth 100000 in
theorem dL_law_2677 : decode code 2677 = .ok (.aload_n 0, 1) := by decide +kernel
set_option maxRecDepth 100000 in
theorem dL_law_2678 : decode code 2678 = .ok (.iload 4, 2) := by decide +kernel
set_option maxRecDepth 100000 in
theorem dL_law_2680 : decode code 2680 = .ok (.iconst 3, 1) := by decide +kernel
set_option maxRecDepth 100000 in
theorem dL_law_2681 : decode code 2681 = .ok (.iadd, 1) := by decide +kernel
set_option maxRecDepth 100000 in
theorem dL_law_2682 : decode code 2682 = .ok (.iaload, 1) := by decide +kernel
set_option maxRecDepth 100000 in
theorem dL_law_2683 : decode code 2683 = .ok (.invokevirtual 313, 3) := by decide +kernel
set_option maxRecDepth 100000 in
theorem dL_law_2686 : decode code 2686 = .ok (.istore 6, 2) := by decide +kernel
set_option maxRecDepth 100000 in
theorem dL_law_2688 : decode code 2688 = .ok (.aload_n 2, 1) := by decide +kernel
set_option maxRecDepth 100000 in
theorem dL_law_2689 : decode code 2689 = .ok (.invokevirtual 197, 3) := by decide +kernel
set_option maxRecDepth 100000 in
theorem dL_law_2692 : decode code 2692 = .ok (.iload 5, 2) := by decide +kernel
set_option maxRecDepth 100000 in
theorem dL_law_2694 : decode code 2694 = .ok (.if_icmp .eq 5, 3) := by decide +kernel
set_option maxRecDepth 100000 in
theorem dL_law_2699 : decode code 2699 = .ok (.iload 5, 2) := by decide +kernel
set_option maxRecDepth 100000 in
theorem dL_law_2701 : decode code 2701 = .ok (.ifCond .ne 15, 3) := by decide +kernel
set_option maxRecDepth 100000 in
theorem dL_law_2716 : decode code 2716 = .ok (.goto 1383, 3) := by decide +kernel
set_option maxRecDepth 100000 in
theorem dL_law_2719 : decode code 2719 = .ok (.aload_n 1, 1) := by decide +kernel
set_option maxRecDepth 100000 in
theorem dL_law_2720 : decode code 2720 = .ok (.aload_n 0, 1) := by decide +kernel
set_option maxRecDepth 100000 in
theorem dL_law_2721 : decode code 2721 = .ok (.iload 4, 2) := by decide +kernel
set_option maxRecDepth 100000 in
theorem dL_law_2723 : decode code 2723 = .ok (.iconst 1, 1) := by decide +kernel
set_option maxRecDepth 100000 in
theorem dL_law_2724 : decode code 2724 = .ok (.iadd, 1) := by decide +kernel
set_option maxRecDepth 100000 in
theorem dL_law_2725 : decode code 2725 = .ok (.iaload, 1) := by decide +kernel
set_option maxRecDepth 100000 in
theorem dL_law_2726 : decode code 2726 = .ok (.aload_n 0, 1) := by decide +kernel
set_option maxRecDepth 100000 in
theorem dL_law_2727 : decode code 2727 = .ok (.iload 4, 2) := by decide +kernel
set_option maxRecDepth 100000 in
theorem dL_law_2729 : decode code 2729 = .ok (.iconst 2, 1) := by decide +kernel
set_option maxRecDepth 100000 in
theorem dL_law_2730 : decode code 2730 = .ok (.iadd, 1) := by decide +kernel
set_option maxRecDepth 100000 in
theorem dL_law_2731 : decode code 2731 = .ok (.iaload, 1) := by decide +kernel
set_option maxRecDepth 100000 in
theorem dL_law_2732 : decode code 2732 = .ok (.aload_n 0, 1) := by decide +kernel
set_option maxRecDepth 100000 in
theorem dL_law_2733 : decode code 2733 = .ok (.iload 4, 2) := by decide +kernel
set_option maxRecDepth 100000 in
theorem dL_law_2735 : decode code 2735 = .ok (.iconst 3, 1) := by decide +kernel
set_option maxRecDepth 100000 in
theorem dL_law_2736 : decode code 2736 = .ok (.iadd, 1) := by decide +kernel
set_option maxRecDepth 100000 in
theorem dL_law_2737 : decode code 2737 = .ok (.iaload, 1) := by decide +kernel
set_option maxRecDepth 100000 in
theorem dL_law_2738 : decode code 2738 = .ok (.aload_n 0, 1) := by decide +kernel
set_option maxRecDepth 100000 in
theorem dL_law_2739 : decode code 2739 = .ok (.iload 4, 2) := by decide +kernel
set_option maxRecDepth 100000 in
theorem dL_law_2741 : decode code 2741 = .ok (.iconst 4, 1) := by decide +kernel
set_option maxRecDepth 100000 in
theorem dL_law_2742 : decode code 2742 = .ok (.iadd, 1) := by decide +kernel
set_option maxRecDepth 100000 in
theorem dL_law_2743 : decode code 2743 = .ok (.iaload, 1) := by decide +kernel
set_option maxRecDepth 100000 in
theorem dL_law_2744 : decode code 2744 = .ok (.aload_n 0, 1) := by decide +kernel
set_option maxRecDepth 100000 in
theorem dL_law_2745 : decode code 2745 = .ok (.iload 4, 2) := by decide +kernel
set_option maxRecDepth 100000 in
theorem dL_law_2747 : decode code 2747 = .ok (.iconst 5, 1) := by decide +kernel
set_option maxRecDepth 100000 in
theorem dL_law_2748 : decode code 2748 = .ok (.iadd, 1) := by decide +kernel
set_option maxRecDepth 100000 in
theorem dL_law_2749 : decode code 2749 = .ok (.iaload, 1) := by decide +kernel
set_option maxRecDepth 100000 in
theorem dL_law_2750 : decode code 2750 = .ok (.aload_n 0, 1) := by decide +kernel
set_option maxRecDepth 100000 in
theorem dL_law_2751 : decode code 2751 = .ok (.iload 4, 2) := by decide +kernel
set_option maxRecDepth 100000 in
theorem dL_law_2753 : decode code 2753 = .ok (.bipush 6, 2) := by decide +kernel
set_option maxRecDepth 100000 in
theorem dL_law_2755 : decode code 2755 = .ok (.iadd, 1) := by decide +kernel
set_option maxRecDepth 100000 in
theorem dL_law_2756 : decode code 2756 = .ok (.iaload, 1) := by decide +kernel
set_option maxRecDepth 100000 in
theorem dL_law_2757 : decode code 2757 = .ok (.aload_n 3, 1) := by decide +kernel
set_option maxRecDepth 100000 in
theorem dL_law_2758 : decode code 2758 = .ok (.invokestatic 314, 3) := by decide +kernel
set_option maxRecDepth 100000 in
theorem dL_law_2761 : decode code 2761 = .ok (.istore 5, 2) := by decide +kernel
set_option maxRecDepth 100000 in
theorem dL_law_2763 : decode code 2763 = .ok (.aload_n 2, 1) := by decide +kernel
set_option maxRecDepth 100000 in
theorem dL_law_2764 : decode code 2764 = .ok (.aload_n 0, 1) := by decide +kernel
set_option maxRecDepth 100000 in
theorem dL_law_2765 : decode code 2765 = .ok (.iload 4, 2) := by decide +kernel
set_option maxRecDepth 100000 in
theorem dL_law_2767 : decode code 2767 = .ok (.iconst 1, 1) := by decide +kernel
set_option maxRecDepth 100000 in
theorem dL_law_2768 : decode code 2768 = .ok (.iadd, 1) := by decide +kernel
set_option maxRecDepth 100000 in
theorem dL_law_2769 : decode code 2769 = .ok (.iaload, 1) := by decide +kernel
set_option maxRecDepth 100000 in
theorem dL_law_2770 : decode code 2770 = .ok (.aload_n 0, 1) := by decide +kernel
set_option maxRecDepth 100000 in
theorem dL_law_2771 : decode code 2771 = .ok (.iload 4, 2) := by decide +kernel
set_option maxRecDepth 100000 in
theorem dL_law_2773 : decode code 2773 = .ok (.iconst 2, 1) := by decide +kernel
set_option maxRecDepth 100000 in
theorem dL_law_2774 : decode code 2774 = .ok (.iadd, 1) := by decide +kernel
set_option maxRecDepth 100000 in
theorem dL_law_2775 : decode code 2775 = .ok (.iaload, 1) := by decide +kernel
set_option maxRecDepth 100000 in
theorem dL_law_2776 : decode code 2776 = .ok (.aload_n 0, 1) := by decide +kernel
set_option maxRecDepth 100000 in
theorem dL_law_2777 : decode code 2777 = .ok (.iload 4, 2) := by decide +kernel
set_option maxRecDepth 100000 in
theorem dL_law_2779 : decode code 2779 = .ok (.iconst 3, 1) := by decide +kernel
set_option maxRecDepth 100000 in
theorem dL_law_2780 : decode code 2780 = .ok (.iadd, 1) := by decide +kernel
set_option maxRecDepth 100000 in
theorem dL_law_2781 : decode code 2781 = .ok (.iaload, 1) := by decide +kernel
set_option maxRecDepth 100000 in
theorem dL_law_2782 : decode code 2782 = .ok (.aload_n 0, 1) := by decide +kernel
set_option maxRecDepth 100000 in
theorem dL_law_2783 : decode code 2783 = .ok (.iload 4, 2) := by decide +kernel
set_option maxRecDepth 100000 in
theorem dL_law_2785 : decode code 2785 = .ok (.iconst 4, 1) := by decide +kernel
set_option maxRecDepth 100000 in
theorem dL_law_2786 : decode code 2786 = .ok (.iadd, 1) := by decide +kernel
set_option maxRecDepth 100000 in
theorem dL_law_2787 : decode code 2787 = .ok (.iaload, 1) := by decide +kernel
set_option maxRecDepth 100000 in
theorem dL_law_2788 : decode code 2788 = .ok (.aload_n 0, 1) := by decide +kernel
set_option maxRecDepth 100000 in
theorem dL_law_2789 : decode code 2789 = .ok (.iload 4, 2) := by decide +kernel
set_option maxRecDepth 100000 in
theorem dL_law_2791 : decode code 2791 = .ok (.iconst 5, 1) := by decide +kernel
set_option maxRecDepth 100000 in
theorem dL_law_2792 : decode code 2792 = .ok (.iadd, 1) := by decide +kernel
set_option maxRecDepth 100000 in
theorem dL_law_2793 : decode code 2793 = .ok (.iaload, 1) := by decide +kernel
set_option maxRecDepth 100000 in
theorem dL_law_2794 : decode code 2794 = .ok (.aload_n 0, 1) := by decide +kernel
set_option maxRecDepth 100000 in
theorem dL_law_2795 : decode code 2795 = .ok (.iload 4, 2) := by decide +kernel
set_option maxRecDepth 100000 in
theorem dL_law_2797 : decode code 2797 = .ok (.bipush 6, 2) := by decide +kernel
