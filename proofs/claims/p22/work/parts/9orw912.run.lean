/-! the walk runs: 12 -/
set_option maxRecDepth 100000 in
theorem w_g2388 : w_g (nat_lit 2388) = true := by decide +kernel
theorem w_r2389 : w_rg 2389 := w_rg_s (n := 2388) w_r2388 w_g2388
set_option maxRecDepth 100000 in
theorem w_g2389 : w_g (nat_lit 2389) = true := by decide +kernel
theorem w_r2390 : w_rg 2390 := w_rg_s (n := 2389) w_r2389 w_g2389
set_option maxRecDepth 100000 in
theorem w_g2390 : w_g (nat_lit 2390) = true := by decide +kernel
theorem w_r2391 : w_rg 2391 := w_rg_s (n := 2390) w_r2390 w_g2390
set_option maxRecDepth 100000 in
theorem w_g2391 : w_g (nat_lit 2391) = true := by decide +kernel
theorem w_r2392 : w_rg 2392 := w_rg_s (n := 2391) w_r2391 w_g2391
set_option maxRecDepth 100000 in
theorem w_g2392 : w_g (nat_lit 2392) = true := by decide +kernel
theorem w_r2393 : w_rg 2393 := w_rg_s (n := 2392) w_r2392 w_g2392
set_option maxRecDepth 100000 in
theorem w_g2393 : w_g (nat_lit 2393) = true := by decide +kernel
theorem w_r2394 : w_rg 2394 := w_rg_s (n := 2393) w_r2393 w_g2393
set_option maxRecDepth 100000 in
theorem w_g2394 : w_g (nat_lit 2394) = true := by decide +kernel
theorem w_r2395 : w_rg 2395 := w_rg_s (n := 2394) w_r2394 w_g2394
set_option maxRecDepth 100000 in
theorem w_g2395 : w_g (nat_lit 2395) = true := by decide +kernel
theorem w_r2396 : w_rg 2396 := w_rg_s (n := 2395) w_r2395 w_g2395
set_option maxRecDepth 100000 in
theorem w_g2396 : w_g (nat_lit 2396) = true := by decide +kernel
theorem w_r2397 : w_rg 2397 := w_rg_s (n := 2396) w_r2396 w_g2396
set_option maxRecDepth 100000 in
theorem w_g2397 : w_g (nat_lit 2397) = true := by decide +kernel
theorem w_r2398 : w_rg 2398 := w_rg_s (n := 2397) w_r2397 w_g2397
set_option maxRecDepth 100000 in
theorem w_g2398 : w_g (nat_lit 2398) = true := by decide +kernel
theorem w_r2399 : w_rg 2399 := w_rg_s (n := 2398) w_r2398 w_g2398
set_option maxRecDepth 100000 in
theorem w_g2399 : w_g (nat_lit 2399) = true := by decide +kernel
theorem w_r2400 : w_rg 2400 := w_rg_s (n := 2399) w_r2399 w_g2399
set_option maxRecDepth 100000 in
theorem w_g2400 : w_g (nat_lit 2400) = true := by decide +kernel
theorem w_r2401 : w_rg 2401 := w_rg_s (n := 2400) w_r2400 w_g2400
set_option maxRecDepth 100000 in
theorem w_g2401 : w_g (nat_lit 2401) = true := by decide +kernel
theorem w_r2402 : w_rg 2402 := w_rg_s (n := 2401) w_r2401 w_g2401
set_option maxRecDepth 100000 in
theorem w_g2402 : w_g (nat_lit 2402) = true := by decide +kernel
theorem w_r2403 : w_rg 2403 := w_rg_s (n := 2402) w_r2402 w_g2402
set_option maxRecDepth 100000 in
theorem w_g2403 : w_g (nat_lit 2403) = true := by decide +kernel
theorem w_r2404 : w_rg 2404 := w_rg_s (n := 2403) w_r2403 w_g2403
set_option maxRecDepth 100000 in
theorem w_g2404 : w_g (nat_lit 2404) = true := by decide +kernel
theorem w_r2405 : w_rg 2405 := w_rg_s (n := 2404) w_r2404 w_g2404
set_option maxRecDepth 100000 in
theorem w_g2405 : w_g (nat_lit 2405) = true := by decide +kernel
theorem w_r2406 : w_rg 2406 := w_rg_s (n := 2405) w_r2405 w_g2405
set_option maxRecDepth 100000 in
theorem w_g2406 : w_g (nat_lit 2406) = true := by decide +kernel
theorem w_r2407 : w_rg 2407 := w_rg_s (n := 2406) w_r2406 w_g2406
set_option maxRecDepth 100000 in
theorem w_g2407 : w_g (nat_lit 2407) = true := by decide +kernel
theorem w_r2408 : w_rg 2408 := w_rg_s (n := 2407) w_r2407 w_g2407
set_option maxRecDepth 100000 in
theorem w_g2408 : w_g (nat_lit 2408) = true := by decide +kernel
theorem w_r2409 : w_rg 2409 := w_rg_s (n := 2408) w_r2408 w_g2408
set_option maxRecDepth 100000 in
theorem w_g2409 : w_g (nat_lit 2409) = true := by decide +kernel
theorem w_r2410 : w_rg 2410 := w_rg_s (n := 2409) w_r2409 w_g2409
set_option maxRecDepth 100000 in
theorem w_g2410 : w_g (nat_lit 2410) = true := by decide +kernel
theorem w_r2411 : w_rg 2411 := w_rg_s (n := 2410) w_r2410 w_g2410
set_option maxRecDepth 100000 in
theorem w_g2411 : w_g (nat_lit 2411) = true := by decide +kernel
theorem w_r2412 : w_rg 2412 := w_rg_s (n := 2411) w_r2411 w_g2411
set_option maxRecDepth 100000 in
theorem w_g2412 : w_g (nat_lit 2412) = true := by decide +kernel
theorem w_r2413 : w_rg 2413 := w_rg_s (n := 2412) w_r2412 w_g2412
set_option maxRecDepth 100000 in
theorem w_g2413 : w_g (nat_lit 2413) = true := by decide +kernel
theorem w_r2414 : w_rg 2414 := w_rg_s (n := 2413) w_r2413 w_g2413
set_option maxRecDepth 100000 in
theorem w_g2414 : w_g (nat_lit 2414) = true := by decide +kernel
theorem w_r2415 : w_rg 2415 := w_rg_s (n := 2414) w_r2414 w_g2414
set_option maxRecDepth 100000 in
theorem w_g2415 : w_g (nat_lit 2415) = true := by decide +kernel
theorem w_r2416 : w_rg 2416 := w_rg_s (n := 2415) w_r2415 w_g2415
set_option maxRecDepth 100000 in
theorem w_g2416 : w_g (nat_lit 2416) = true := by decide +kernel
theorem w_r2417 : w_rg 2417 := w_rg_s (n := 2416) w_r2416 w_g2416
set_option maxRecDepth 100000 in
theorem w_g2417 : w_g (nat_lit 2417) = true := by decide +kernel
theorem w_r2418 : w_rg 2418 := w_rg_s (n := 2417) w_r2417 w_g2417
set_option maxRecDepth 100000 in
theorem w_g2418 : w_g (nat_lit 2418) = true := by decide +kernel
theorem w_r2419 : w_rg 2419 := w_rg_s (n := 2418) w_r2418 w_g2418
set_option maxRecDepth 100000 in
theorem w_g2419 : w_g (nat_lit 2419) = true := by decide +kernel
theorem w_r2420 : w_rg 2420 := w_rg_s (n := 2419) w_r2419 w_g2419
set_option maxRecDepth 100000 in
theorem w_g2420 : w_g (nat_lit 2420) = true := by decide +kernel
theorem w_r2421 : w_rg 2421 := w_rg_s (n := 2420) w_r2420 w_g2420
set_option maxRecDepth 100000 in
theorem w_g2421 : w_g (nat_lit 2421) = true := by decide +kernel
theorem w_r2422 : w_rg 2422 := w_rg_s (n := 2421) w_r2421 w_g2421
set_option maxRecDepth 100000 in
theorem w_g2422 : w_g (nat_lit 2422) = true := by decide +kernel
theorem w_r2423 : w_rg 2423 := w_rg_s (n := 2422) w_r2422 w_g2422
set_option maxRecDepth 100000 in
theorem w_g2423 : w_g (nat_lit 2423) = true := by decide +kernel
theorem w_r2424 : w_rg 2424 := w_rg_s (n := 2423) w_r2423 w_g2423
set_option maxRecDepth 100000 in
theorem w_g2424 : w_g (nat_lit 2424) = true := by decide +kernel
theorem w_r2425 : w_rg 2425 := w_rg_s (n := 2424) w_r2424 w_g2424
set_option maxRecDepth 100000 in
theorem w_g2425 : w_g (nat_lit 2425) = true := by decide +kernel
theorem w_r2426 : w_rg 2426 := w_rg_s (n := 2425) w_r2425 w_g2425
set_option maxRecDepth 100000 in
theorem w_g2426 : w_g (nat_lit 2426) = true := by decide +kernel
theorem w_r2427 : w_rg 2427 := w_rg_s (n := 2426) w_r2426 w_g2426
set_option maxRecDepth 100000 in
theorem w_g2427 : w_g (nat_lit 2427) = true := by decide +kernel
theorem w_r2428 : w_rg 2428 := w_rg_s (n := 2427) w_r2427 w_g2427
set_option maxRecDepth 100000 in
theorem w_g2428 : w_g (nat_lit 2428) = true := by decide +kernel
theorem w_r2429 : w_rg 2429 := w_rg_s (n := 2428) w_r2428 w_g2428
set_option maxRecDepth 100000 in
theorem w_g2429 : w_g (nat_lit 2429) = true := by decide +kernel
theorem w_r2430 : w_rg 2430 := w_rg_s (n := 2429) w_r2429 w_g2429
set_option maxRecDepth 100000 in
theorem w_g2430 : w_g (nat_lit 2430) = true := by decide +kernel
theorem w_r2431 : w_rg 2431 := w_rg_s (n := 2430) w_r2430 w_g2430
set_option maxRecDepth 100000 in
theorem w_g2431 : w_g (nat_lit 2431) = true := by decide +kernel
theorem w_r2432 : w_rg 2432 := w_rg_s (n := 2431) w_r2431 w_g2431
set_option maxRecDepth 100000 in
theorem w_g2432 : w_g (nat_lit 2432) = true := by decide +kernel
theorem w_r2433 : w_rg 2433 := w_rg_s (n := 2432) w_r2432 w_g2432
set_option maxRecDepth 100000 in
theorem w_g2433 : w_g (nat_lit 2433) = true := by decide +kernel
theorem w_r2434 : w_rg 2434 := w_rg_s (n := 2433) w_r2433 w_g2433
set_option maxRecDepth 100000 in
theorem w_g2434 : w_g (nat_lit 2434) = true := by decide +kernel
theorem w_r2435 : w_rg 2435 := w_rg_s (n := 2434) w_r2434 w_g2434
set_option maxRecDepth 100000 in
theorem w_g2435 : w_g (nat_lit 2435) = true := by decide +kernel
theorem w_r2436 : w_rg 2436 := w_rg_s (n := 2435) w_r2435 w_g2435
set_option maxRecDepth 100000 in
theorem w_g2436 : w_g (nat_lit 2436) = true := by decide +kernel
theorem w_r2437 : w_rg 2437 := w_rg_s (n := 2436) w_r2436 w_g2436
set_option maxRecDepth 100000 in
theorem w_g2437 : w_g (nat_lit 2437) = true := by decide +kernel
theorem w_r2438 : w_rg 2438 := w_rg_s (n := 2437) w_r2437 w_g2437
set_option maxRecDepth 100000 in
theorem w_g2438 : w_g (nat_lit 2438) = true := by decide +kernel
theorem w_r2439 : w_rg 2439 := w_rg_s (n := 2438) w_r2438 w_g2438
set_option maxRecDepth 100000 in
theorem w_g2439 : w_g (nat_lit 2439) = true := by decide +kernel
theorem w_r2440 : w_rg 2440 := w_rg_s (n := 2439) w_r2439 w_g2439
set_option maxRecDepth 100000 in
theorem w_g2440 : w_g (nat_lit 2440) = true := by decide +kernel
theorem w_r2441 : w_rg 2441 := w_rg_s (n := 2440) w_r2440 w_g2440
set_option maxRecDepth 100000 in
theorem w_g2441 : w_g (nat_lit 2441) = true := by decide +kernel
theorem w_r2442 : w_rg 2442 := w_rg_s (n := 2441) w_r2441 w_g2441
set_option maxRecDepth 100000 in
theorem w_g2442 : w_g (nat_lit 2442) = true := by decide +kernel
theorem w_r2443 : w_rg 2443 := w_rg_s (n := 2442) w_r2442 w_g2442
set_option maxRecDepth 100000 in
theorem w_g2443 : w_g (nat_lit 2443) = true := by decide +kernel
theorem w_r2444 : w_rg 2444 := w_rg_s (n := 2443) w_r2443 w_g2443
set_option maxRecDepth 100000 in
theorem w_g2444 : w_g (nat_lit 2444) = true := by decide +kernel
theorem w_r2445 : w_rg 2445 := w_rg_s (n := 2444) w_r2444 w_g2444
set_option maxRecDepth 100000 in
theorem w_g2445 : w_g (nat_lit 2445) = true := by decide +kernel
theorem w_r2446 : w_rg 2446 := w_rg_s (n := 2445) w_r2445 w_g2445
set_option maxRecDepth 100000 in
theorem w_g2446 : w_g (nat_lit 2446) = true := by decide +kernel
theorem w_r2447 : w_rg 2447 := w_rg_s (n := 2446) w_r2446 w_g2446
set_option maxRecDepth 100000 in
theorem w_g2447 : w_g (nat_lit 2447) = true := by decide +kernel
theorem w_r2448 : w_rg 2448 := w_rg_s (n := 2447) w_r2447 w_g2447
set_option maxRecDepth 100000 in
theorem w_g2448 : w_g (nat_lit 2448) = true := by decide +kernel
theorem w_r2449 : w_rg 2449 := w_rg_s (n := 2448) w_r2448 w_g2448
set_option maxRecDepth 100000 in
theorem w_g2449 : w_g (nat_lit 2449) = true := by decide +kernel
theorem w_r2450 : w_rg 2450 := w_rg_s (n := 2449) w_r2449 w_g2449
set_option maxRecDepth 100000 in
theorem w_g2450 : w_g (nat_lit 2450) = true := by decide +kernel
theorem w_r2451 : w_rg 2451 := w_rg_s (n := 2450) w_r2450 w_g2450
set_option maxRecDepth 100000 in
theorem w_g2451 : w_g (nat_lit 2451) = true := by decide +kernel
theorem w_r2452 : w_rg 2452 := w_rg_s (n := 2451) w_r2451 w_g2451
set_option maxRecDepth 100000 in
theorem w_g2452 : w_g (nat_lit 2452) = true := by decide +kernel
theorem w_r2453 : w_rg 2453 := w_rg_s (n := 2452) w_r2452 w_g2452
set_option maxRecDepth 100000 in
theorem w_g2453 : w_g (nat_lit 2453) = true := by decide +kernel
theorem w_r2454 : w_rg 2454 := w_rg_s (n := 2453) w_r2453 w_g2453
set_option maxRecDepth 100000 in
theorem w_g2454 : w_g (nat_lit 2454) = true := by decide +kernel
theorem w_r2455 : w_rg 2455 := w_rg_s (n := 2454) w_r2454 w_g2454
set_option maxRecDepth 100000 in
theorem w_g2455 : w_g (nat_lit 2455) = true := by decide +kernel
theorem w_r2456 : w_rg 2456 := w_rg_s (n := 2455) w_r2455 w_g2455
set_option maxRecDepth 100000 in
theorem w_g2456 : w_g (nat_lit 2456) = true := by decide +kernel
theorem w_r2457 : w_rg 2457 := w_rg_s (n := 2456) w_r2456 w_g2456
set_option maxRecDepth 100000 in
theorem w_g2457 : w_g (nat_lit 2457) = true := by decide +kernel
theorem w_r2458 : w_rg 2458 := w_rg_s (n := 2457) w_r2457 w_g2457
set_option maxRecDepth 100000 in
theorem w_g2458 : w_g (nat_lit 2458) = true := by decide +kernel
theorem w_r2459 : w_rg 2459 := w_rg_s (n := 2458) w_r2458 w_g2458
set_option maxRecDepth 100000 in
theorem w_g2459 : w_g (nat_lit 2459) = true := by decide +kernel
theorem w_r2460 : w_rg 2460 := w_rg_s (n := 2459) w_r2459 w_g2459
set_option maxRecDepth 100000 in
theorem w_g2460 : w_g (nat_lit 2460) = true := by decide +kernel
theorem w_r2461 : w_rg 2461 := w_rg_s (n := 2460) w_r2460 w_g2460
set_option maxRecDepth 100000 in
theorem w_g2461 : w_g (nat_lit 2461) = true := by decide +kernel
theorem w_r2462 : w_rg 2462 := w_rg_s (n := 2461) w_r2461 w_g2461
set_option maxRecDepth 100000 in
theorem w_g2462 : w_g (nat_lit 2462) = true := by decide +kernel
theorem w_r2463 : w_rg 2463 := w_rg_s (n := 2462) w_r2462 w_g2462
set_option maxRecDepth 100000 in
theorem w_g2463 : w_g (nat_lit 2463) = true := by decide +kernel
theorem w_r2464 : w_rg 2464 := w_rg_s (n := 2463) w_r2463 w_g2463
set_option maxRecDepth 100000 in
theorem w_g2464 : w_g (nat_lit 2464) = true := by decide +kernel
theorem w_r2465 : w_rg 2465 := w_rg_s (n := 2464) w_r2464 w_g2464
set_option maxRecDepth 100000 in
theorem w_g2465 : w_g (nat_lit 2465) = true := by decide +kernel
theorem w_r2466 : w_rg 2466 := w_rg_s (n := 2465) w_r2465 w_g2465
set_option maxRecDepth 100000 in
theorem w_g2466 : w_g (nat_lit 2466) = true := by decide +kernel
theorem w_r2467 : w_rg 2467 := w_rg_s (n := 2466) w_r2466 w_g2466
set_option maxRecDepth 100000 in
theorem w_g2467 : w_g (nat_lit 2467) = true := by decide +kernel
theorem w_r2468 : w_rg 2468 := w_rg_s (n := 2467) w_r2467 w_g2467
set_option maxRecDepth 100000 in
theorem w_g2468 : w_g (nat_lit 2468) = true := by decide +kernel
theorem w_r2469 : w_rg 2469 := w_rg_s (n := 2468) w_r2468 w_g2468
set_option maxRecDepth 100000 in
theorem w_g2469 : w_g (nat_lit 2469) = true := by decide +kernel
theorem w_r2470 : w_rg 2470 := w_rg_s (n := 2469) w_r2469 w_g2469
set_option maxRecDepth 100000 in
theorem w_g2470 : w_g (nat_lit 2470) = true := by decide +kernel
theorem w_r2471 : w_rg 2471 := w_rg_s (n := 2470) w_r2470 w_g2470
set_option maxRecDepth 100000 in
theorem w_g2471 : w_g (nat_lit 2471) = true := by decide +kernel
theorem w_r2472 : w_rg 2472 := w_rg_s (n := 2471) w_r2471 w_g2471
set_option maxRecDepth 100000 in
theorem w_g2472 : w_g (nat_lit 2472) = true := by decide +kernel
theorem w_r2473 : w_rg 2473 := w_rg_s (n := 2472) w_r2472 w_g2472
set_option maxRecDepth 100000 in
theorem w_g2473 : w_g (nat_lit 2473) = true := by decide +kernel
theorem w_r2474 : w_rg 2474 := w_rg_s (n := 2473) w_r2473 w_g2473
set_option maxRecDepth 100000 in
theorem w_g2474 : w_g (nat_lit 2474) = true := by decide +kernel
theorem w_r2475 : w_rg 2475 := w_rg_s (n := 2474) w_r2474 w_g2474
set_option maxRecDepth 100000 in
theorem w_g2475 : w_g (nat_lit 2475) = true := by decide +kernel
theorem w_r2476 : w_rg 2476 := w_rg_s (n := 2475) w_r2475 w_g2475
set_option maxRecDepth 100000 in
theorem w_g2476 : w_g (nat_lit 2476) = true := by decide +kernel
theorem w_r2477 : w_rg 2477 := w_rg_s (n := 2476) w_r2476 w_g2476
set_option maxRecDepth 100000 in
theorem w_g2477 : w_g (nat_lit 2477) = true := by decide +kernel
theorem w_r2478 : w_rg 2478 := w_rg_s (n := 2477) w_r2477 w_g2477
set_option maxRecDepth 100000 in
theorem w_g2478 : w_g (nat_lit 2478) = true := by decide +kernel
theorem w_r2479 : w_rg 2479 := w_rg_s (n := 2478) w_r2478 w_g2478
set_option maxRecDepth 100000 in
theorem w_g2479 : w_g (nat_lit 2479) = true := by decide +kernel
theorem w_r2480 : w_rg 2480 := w_rg_s (n := 2479) w_r2479 w_g2479
set_option maxRecDepth 100000 in
theorem w_g2480 : w_g (nat_lit 2480) = true := by decide +kernel
theorem w_r2481 : w_rg 2481 := w_rg_s (n := 2480) w_r2480 w_g2480
set_option maxRecDepth 100000 in
theorem w_g2481 : w_g (nat_lit 2481) = true := by decide +kernel
theorem w_r2482 : w_rg 2482 := w_rg_s (n := 2481) w_r2481 w_g2481
set_option maxRecDepth 100000 in
theorem w_g2482 : w_g (nat_lit 2482) = true := by decide +kernel
theorem w_r2483 : w_rg 2483 := w_rg_s (n := 2482) w_r2482 w_g2482
set_option maxRecDepth 100000 in
theorem w_g2483 : w_g (nat_lit 2483) = true := by decide +kernel
theorem w_r2484 : w_rg 2484 := w_rg_s (n := 2483) w_r2483 w_g2483
set_option maxRecDepth 100000 in
theorem w_g2484 : w_g (nat_lit 2484) = true := by decide +kernel
theorem w_r2485 : w_rg 2485 := w_rg_s (n := 2484) w_r2484 w_g2484
set_option maxRecDepth 100000 in
theorem w_g2485 : w_g (nat_lit 2485) = true := by decide +kernel
theorem w_r2486 : w_rg 2486 := w_rg_s (n := 2485) w_r2485 w_g2485
set_option maxRecDepth 100000 in
theorem w_g2486 : w_g (nat_lit 2486) = true := by decide +kernel
theorem w_r2487 : w_rg 2487 := w_rg_s (n := 2486) w_r2486 w_g2486
set_option maxRecDepth 100000 in
theorem w_g2487 : w_g (nat_lit 2487) = true := by decide +kernel
theorem w_r2488 : w_rg 2488 := w_rg_s (n := 2487) w_r2487 w_g2487
set_option maxRecDepth 100000 in
theorem w_g2488 : w_g (nat_lit 2488) = true := by decide +kernel
theorem w_r2489 : w_rg 2489 := w_rg_s (n := 2488) w_r2488 w_g2488
set_option maxRecDepth 100000 in
theorem w_g2489 : w_g (nat_lit 2489) = true := by decide +kernel
theorem w_r2490 : w_rg 2490 := w_rg_s (n := 2489) w_r2489 w_g2489
set_option maxRecDepth 100000 in
theorem w_g2490 : w_g (nat_lit 2490) = true := by decide +kernel
theorem w_r2491 : w_rg 2491 := w_rg_s (n := 2490) w_r2490 w_g2490
set_option maxRecDepth 100000 in
theorem w_g2491 : w_g (nat_lit 2491) = true := by decide +kernel
theorem w_r2492 : w_rg 2492 := w_rg_s (n := 2491) w_r2491 w_g2491
set_option maxRecDepth 100000 in
theorem w_g2492 : w_g (nat_lit 2492) = true := by decide +kernel
theorem w_r2493 : w_rg 2493 := w_rg_s (n := 2492) w_r2492 w_g2492
set_option maxRecDepth 100000 in
theorem w_g2493 : w_g (nat_lit 2493) = true := by decide +kernel
theorem w_r2494 : w_rg 2494 := w_rg_s (n := 2493) w_r2493 w_g2493
set_option maxRecDepth 100000 in
theorem w_g2494 : w_g (nat_lit 2494) = true := by decide +kernel
theorem w_r2495 : w_rg 2495 := w_rg_s (n := 2494) w_r2494 w_g2494
set_option maxRecDepth 100000 in
theorem w_g2495 : w_g (nat_lit 2495) = true := by decide +kernel
theorem w_r2496 : w_rg 2496 := w_rg_s (n := 2495) w_r2495 w_g2495
set_option maxRecDepth 100000 in
theorem w_g2496 : w_g (nat_lit 2496) = true := by decide +kernel
theorem w_r2497 : w_rg 2497 := w_rg_s (n := 2496) w_r2496 w_g2496
set_option maxRecDepth 100000 in
theorem w_g2497 : w_g (nat_lit 2497) = true := by decide +kernel
theorem w_r2498 : w_rg 2498 := w_rg_s (n := 2497) w_r2497 w_g2497
set_option maxRecDepth 100000 in
theorem w_g2498 : w_g (nat_lit 2498) = true := by decide +kernel
theorem w_r2499 : w_rg 2499 := w_rg_s (n := 2498) w_r2498 w_g2498
set_option maxRecDepth 100000 in
theorem w_g2499 : w_g (nat_lit 2499) = true := by decide +kernel
theorem w_r2500 : w_rg 2500 := w_rg_s (n := 2499) w_r2499 w_g2499
set_option maxRecDepth 100000 in
theorem w_g2500 : w_g (nat_lit 2500) = true := by decide +kernel
theorem w_r2501 : w_rg 2501 := w_rg_s (n := 2500) w_r2500 w_g2500
set_option maxRecDepth 100000 in
theorem w_g2501 : w_g (nat_lit 2501) = true := by decide +kernel
theorem w_r2502 : w_rg 2502 := w_rg_s (n := 2501) w_r2501 w_g2501
set_option maxRecDepth 100000 in
theorem w_g2502 : w_g (nat_lit 2502) = true := by decide +kernel
theorem w_r2503 : w_rg 2503 := w_rg_s (n := 2502) w_r2502 w_g2502
set_option maxRecDepth 100000 in
theorem w_g2503 : w_g (nat_lit 2503) = true := by decide +kernel
theorem w_r2504 : w_rg 2504 := w_rg_s (n := 2503) w_r2503 w_g2503
set_option maxRecDepth 100000 in
theorem w_g2504 : w_g (nat_lit 2504) = true := by decide +kernel
theorem w_r2505 : w_rg 2505 := w_rg_s (n := 2504) w_r2504 w_g2504
set_option maxRecDepth 100000 in
theorem w_g2505 : w_g (nat_lit 2505) = true := by decide +kernel
theorem w_r2506 : w_rg 2506 := w_rg_s (n := 2505) w_r2505 w_g2505
set_option maxRecDepth 100000 in
theorem w_g2506 : w_g (nat_lit 2506) = true := by decide +kernel
theorem w_r2507 : w_rg 2507 := w_rg_s (n := 2506) w_r2506 w_g2506
set_option maxRecDepth 100000 in
theorem w_g2507 : w_g (nat_lit 2507) = true := by decide +kernel
theorem w_r2508 : w_rg 2508 := w_rg_s (n := 2507) w_r2507 w_g2507
set_option maxRecDepth 100000 in
theorem w_g2508 : w_g (nat_lit 2508) = true := by decide +kernel
theorem w_r2509 : w_rg 2509 := w_rg_s (n := 2508) w_r2508 w_g2508
set_option maxRecDepth 100000 in
theorem w_g2509 : w_g (nat_lit 2509) = true := by decide +kernel
theorem w_r2510 : w_rg 2510 := w_rg_s (n := 2509) w_r2509 w_g2509
set_option maxRecDepth 100000 in
theorem w_g2510 : w_g (nat_lit 2510) = true := by decide +kernel
theorem w_r2511 : w_rg 2511 := w_rg_s (n := 2510) w_r2510 w_g2510
set_option maxRecDepth 100000 in
theorem w_g2511 : w_g (nat_lit 2511) = true := by decide +kernel
theorem w_r2512 : w_rg 2512 := w_rg_s (n := 2511) w_r2511 w_g2511
set_option maxRecDepth 100000 in
theorem w_g2512 : w_g (nat_lit 2512) = true := by decide +kernel
theorem w_r2513 : w_rg 2513 := w_rg_s (n := 2512) w_r2512 w_g2512
set_option maxRecDepth 100000 in
theorem w_g2513 : w_g (nat_lit 2513) = true := by decide +kernel
theorem w_r2514 : w_rg 2514 := w_rg_s (n := 2513) w_r2513 w_g2513
set_option maxRecDepth 100000 in
theorem w_g2514 : w_g (nat_lit 2514) = true := by decide +kernel
theorem w_r2515 : w_rg 2515 := w_rg_s (n := 2514) w_r2514 w_g2514
set_option maxRecDepth 100000 in
theorem w_g2515 : w_g (nat_lit 2515) = true := by decide +kernel
theorem w_r2516 : w_rg 2516 := w_rg_s (n := 2515) w_r2515 w_g2515
set_option maxRecDepth 100000 in
theorem w_g2516 : w_g (nat_lit 2516) = true := by decide +kernel
theorem w_r2517 : w_rg 2517 := w_rg_s (n := 2516) w_r2516 w_g2516
set_option maxRecDepth 100000 in
theorem w_g2517 : w_g (nat_lit 2517) = true := by decide +kernel
theorem w_r2518 : w_rg 2518 := w_rg_s (n := 2517) w_r2517 w_g2517
set_option maxRecDepth 100000 in
theorem w_g2518 : w_g (nat_lit 2518) = true := by decide +kernel
theorem w_r2519 : w_rg 2519 := w_rg_s (n := 2518) w_r2518 w_g2518
set_option maxRecDepth 100000 in
theorem w_g2519 : w_g (nat_lit 2519) = true := by decide +kernel
theorem w_r2520 : w_rg 2520 := w_rg_s (n := 2519) w_r2519 w_g2519
set_option maxRecDepth 100000 in
theorem w_g2520 : w_g (nat_lit 2520) = true := by decide +kernel
theorem w_r2521 : w_rg 2521 := w_rg_s (n := 2520) w_r2520 w_g2520
set_option maxRecDepth 100000 in
theorem w_g2521 : w_g (nat_lit 2521) = true := by decide +kernel
theorem w_r2522 : w_rg 2522 := w_rg_s (n := 2521) w_r2521 w_g2521
set_option maxRecDepth 100000 in
theorem w_g2522 : w_g (nat_lit 2522) = true := by decide +kernel
theorem w_r2523 : w_rg 2523 := w_rg_s (n := 2522) w_r2522 w_g2522
set_option maxRecDepth 100000 in
theorem w_g2523 : w_g (nat_lit 2523) = true := by decide +kernel
theorem w_r2524 : w_rg 2524 := w_rg_s (n := 2523) w_r2523 w_g2523
set_option maxRecDepth 100000 in
theorem w_g2524 : w_g (nat_lit 2524) = true := by decide +kernel
theorem w_r2525 : w_rg 2525 := w_rg_s (n := 2524) w_r2524 w_g2524
set_option maxRecDepth 100000 in
theorem w_g2525 : w_g (nat_lit 2525) = true := by decide +kernel
theorem w_r2526 : w_rg 2526 := w_rg_s (n := 2525) w_r2525 w_g2525
set_option maxRecDepth 100000 in
theorem w_g2526 : w_g (nat_lit 2526) = true := by decide +kernel
theorem w_r2527 : w_rg 2527 := w_rg_s (n := 2526) w_r2526 w_g2526
set_option maxRecDepth 100000 in
theorem w_g2527 : w_g (nat_lit 2527) = true := by decide +kernel
theorem w_r2528 : w_rg 2528 := w_rg_s (n := 2527) w_r2527 w_g2527
set_option maxRecDepth 100000 in
theorem w_g2528 : w_g (nat_lit 2528) = true := by decide +kernel
theorem w_r2529 : w_rg 2529 := w_rg_s (n := 2528) w_r2528 w_g2528
set_option maxRecDepth 100000 in
theorem w_g2529 : w_g (nat_lit 2529) = true := by decide +kernel
theorem w_r2530 : w_rg 2530 := w_rg_s (n := 2529) w_r2529 w_g2529
set_option maxRecDepth 100000 in
theorem w_g2530 : w_g (nat_lit 2530) = true := by decide +kernel
theorem w_r2531 : w_rg 2531 := w_rg_s (n := 2530) w_r2530 w_g2530
set_option maxRecDepth 100000 in
theorem w_g2531 : w_g (nat_lit 2531) = true := by decide +kernel
theorem w_r2532 : w_rg 2532 := w_rg_s (n := 2531) w_r2531 w_g2531
set_option maxRecDepth 100000 in
theorem w_g2532 : w_g (nat_lit 2532) = true := by decide +kernel
theorem w_r2533 : w_rg 2533 := w_rg_s (n := 2532) w_r2532 w_g2532
set_option maxRecDepth 100000 in
theorem w_g2533 : w_g (nat_lit 2533) = true := by decide +kernel
theorem w_r2534 : w_rg 2534 := w_rg_s (n := 2533) w_r2533 w_g2533
set_option maxRecDepth 100000 in
theorem w_g2534 : w_g (nat_lit 2534) = true := by decide +kernel
theorem w_r2535 : w_rg 2535 := w_rg_s (n := 2534) w_r2534 w_g2534
set_option maxRecDepth 100000 in
theorem w_g2535 : w_g (nat_lit 2535) = true := by decide +kernel
theorem w_r2536 : w_rg 2536 := w_rg_s (n := 2535) w_r2535 w_g2535
set_option maxRecDepth 100000 in
theorem w_g2536 : w_g (nat_lit 2536) = true := by decide +kernel
theorem w_r2537 : w_rg 2537 := w_rg_s (n := 2536) w_r2536 w_g2536
set_option maxRecDepth 100000 in
theorem w_g2537 : w_g (nat_lit 2537) = true := by decide +kernel
theorem w_r2538 : w_rg 2538 := w_rg_s (n := 2537) w_r2537 w_g2537
set_option maxRecDepth 100000 in
theorem w_g2538 : w_g (nat_lit 2538) = true := by decide +kernel
theorem w_r2539 : w_rg 2539 := w_rg_s (n := 2538) w_r2538 w_g2538
set_option maxRecDepth 100000 in
theorem w_g2539 : w_g (nat_lit 2539) = true := by decide +kernel
theorem w_r2540 : w_rg 2540 := w_rg_s (n := 2539) w_r2539 w_g2539
set_option maxRecDepth 100000 in
theorem w_g2540 : w_g (nat_lit 2540) = true := by decide +kernel
theorem w_r2541 : w_rg 2541 := w_rg_s (n := 2540) w_r2540 w_g2540
set_option maxRecDepth 100000 in
theorem w_g2541 : w_g (nat_lit 2541) = true := by decide +kernel
theorem w_r2542 : w_rg 2542 := w_rg_s (n := 2541) w_r2541 w_g2541
set_option maxRecDepth 100000 in
theorem w_g2542 : w_g (nat_lit 2542) = true := by decide +kernel
theorem w_r2543 : w_rg 2543 := w_rg_s (n := 2542) w_r2542 w_g2542
set_option maxRecDepth 100000 in
theorem w_g2543 : w_g (nat_lit 2543) = true := by decide +kernel
theorem w_r2544 : w_rg 2544 := w_rg_s (n := 2543) w_r2543 w_g2543
set_option maxRecDepth 100000 in
theorem w_g2544 : w_g (nat_lit 2544) = true := by decide +kernel
theorem w_r2545 : w_rg 2545 := w_rg_s (n := 2544) w_r2544 w_g2544
set_option maxRecDepth 100000 in
theorem w_g2545 : w_g (nat_lit 2545) = true := by decide +kernel
theorem w_r2546 : w_rg 2546 := w_rg_s (n := 2545) w_r2545 w_g2545
set_option maxRecDepth 100000 in
theorem w_g2546 : w_g (nat_lit 2546) = true := by decide +kernel
theorem w_r2547 : w_rg 2547 := w_rg_s (n := 2546) w_r2546 w_g2546
set_option maxRecDepth 100000 in
theorem w_g2547 : w_g (nat_lit 2547) = true := by decide +kernel
theorem w_r2548 : w_rg 2548 := w_rg_s (n := 2547) w_r2547 w_g2547
set_option maxRecDepth 100000 in
theorem w_g2548 : w_g (nat_lit 2548) = true := by decide +kernel
theorem w_r2549 : w_rg 2549 := w_rg_s (n := 2548) w_r2548 w_g2548
set_option maxRecDepth 100000 in
theorem w_g2549 : w_g (nat_lit 2549) = true := by decide +kernel
theorem w_r2550 : w_rg 2550 := w_rg_s (n := 2549) w_r2549 w_g2549
set_option maxRecDepth 100000 in
theorem w_g2550 : w_g (nat_lit 2550) = true := by decide +kernel
theorem w_r2551 : w_rg 2551 := w_rg_s (n := 2550) w_r2550 w_g2550
set_option maxRecDepth 100000 in
theorem w_g2551 : w_g (nat_lit 2551) = true := by decide +kernel
theorem w_r2552 : w_rg 2552 := w_rg_s (n := 2551) w_r2551 w_g2551
set_option maxRecDepth 100000 in
theorem w_g2552 : w_g (nat_lit 2552) = true := by decide +kernel
theorem w_r2553 : w_rg 2553 := w_rg_s (n := 2552) w_r2552 w_g2552
set_option maxRecDepth 100000 in
theorem w_g2553 : w_g (nat_lit 2553) = true := by decide +kernel
theorem w_r2554 : w_rg 2554 := w_rg_s (n := 2553) w_r2553 w_g2553
set_option maxRecDepth 100000 in
theorem w_g2554 : w_g (nat_lit 2554) = true := by decide +kernel
theorem w_r2555 : w_rg 2555 := w_rg_s (n := 2554) w_r2554 w_g2554
set_option maxRecDepth 100000 in
theorem w_g2555 : w_g (nat_lit 2555) = true := by decide +kernel
theorem w_r2556 : w_rg 2556 := w_rg_s (n := 2555) w_r2555 w_g2555
set_option maxRecDepth 100000 in
theorem w_g2556 : w_g (nat_lit 2556) = true := by decide +kernel
theorem w_r2557 : w_rg 2557 := w_rg_s (n := 2556) w_r2556 w_g2556
set_option maxRecDepth 100000 in
theorem w_g2557 : w_g (nat_lit 2557) = true := by decide +kernel
theorem w_r2558 : w_rg 2558 := w_rg_s (n := 2557) w_r2557 w_g2557
set_option maxRecDepth 100000 in
theorem w_g2558 : w_g (nat_lit 2558) = true := by decide +kernel
theorem w_r2559 : w_rg 2559 := w_rg_s (n := 2558) w_r2558 w_g2558
set_option maxRecDepth 100000 in
theorem w_g2559 : w_g (nat_lit 2559) = true := by decide +kernel
theorem w_r2560 : w_rg 2560 := w_rg_s (n := 2559) w_r2559 w_g2559
set_option maxRecDepth 100000 in
theorem w_g2560 : w_g (nat_lit 2560) = true := by decide +kernel
theorem w_r2561 : w_rg 2561 := w_rg_s (n := 2560) w_r2560 w_g2560
set_option maxRecDepth 100000 in
theorem w_g2561 : w_g (nat_lit 2561) = true := by decide +kernel
theorem w_r2562 : w_rg 2562 := w_rg_s (n := 2561) w_r2561 w_g2561
set_option maxRecDepth 100000 in
theorem w_g2562 : w_g (nat_lit 2562) = true := by decide +kernel
theorem w_r2563 : w_rg 2563 := w_rg_s (n := 2562) w_r2562 w_g2562
set_option maxRecDepth 100000 in
theorem w_g2563 : w_g (nat_lit 2563) = true := by decide +kernel
theorem w_r2564 : w_rg 2564 := w_rg_s (n := 2563) w_r2563 w_g2563
set_option maxRecDepth 100000 in
theorem w_g2564 : w_g (nat_lit 2564) = true := by decide +kernel
theorem w_r2565 : w_rg 2565 := w_rg_s (n := 2564) w_r2564 w_g2564
set_option maxRecDepth 100000 in
theorem w_g2565 : w_g (nat_lit 2565) = true := by decide +kernel
theorem w_r2566 : w_rg 2566 := w_rg_s (n := 2565) w_r2565 w_g2565
set_option maxRecDepth 100000 in
theorem w_g2566 : w_g (nat_lit 2566) = true := by decide +kernel
theorem w_r2567 : w_rg 2567 := w_rg_s (n := 2566) w_r2566 w_g2566
set_option maxRecDepth 100000 in
theorem w_g2567 : w_g (nat_lit 2567) = true := by decide +kernel
theorem w_r2568 : w_rg 2568 := w_rg_s (n := 2567) w_r2567 w_g2567
set_option maxRecDepth 100000 in
theorem w_g2568 : w_g (nat_lit 2568) = true := by decide +kernel
theorem w_r2569 : w_rg 2569 := w_rg_s (n := 2568) w_r2568 w_g2568
set_option maxRecDepth 100000 in
theorem w_g2569 : w_g (nat_lit 2569) = true := by decide +kernel
theorem w_r2570 : w_rg 2570 := w_rg_s (n := 2569) w_r2569 w_g2569
set_option maxRecDepth 100000 in
theorem w_g2570 : w_g (nat_lit 2570) = true := by decide +kernel
theorem w_r2571 : w_rg 2571 := w_rg_s (n := 2570) w_r2570 w_g2570
set_option maxRecDepth 100000 in
theorem w_g2571 : w_g (nat_lit 2571) = true := by decide +kernel
theorem w_r2572 : w_rg 2572 := w_rg_s (n := 2571) w_r2571 w_g2571
set_option maxRecDepth 100000 in
theorem w_g2572 : w_g (nat_lit 2572) = true := by decide +kernel
theorem w_r2573 : w_rg 2573 := w_rg_s (n := 2572) w_r2572 w_g2572
set_option maxRecDepth 100000 in
theorem w_g2573 : w_g (nat_lit 2573) = true := by decide +kernel
theorem w_r2574 : w_rg 2574 := w_rg_s (n := 2573) w_r2573 w_g2573
set_option maxRecDepth 100000 in
theorem w_g2574 : w_g (nat_lit 2574) = true := by decide +kernel
theorem w_r2575 : w_rg 2575 := w_rg_s (n := 2574) w_r2574 w_g2574
set_option maxRecDepth 100000 in
theorem w_g2575 : w_g (nat_lit 2575) = true := by decide +kernel
theorem w_r2576 : w_rg 2576 := w_rg_s (n := 2575) w_r2575 w_g2575
set_option maxRecDepth 100000 in
theorem w_g2576 : w_g (nat_lit 2576) = true := by decide +kernel
theorem w_r2577 : w_rg 2577 := w_rg_s (n := 2576) w_r2576 w_g2576
set_option maxRecDepth 100000 in
theorem w_g2577 : w_g (nat_lit 2577) = true := by decide +kernel
theorem w_r2578 : w_rg 2578 := w_rg_s (n := 2577) w_r2577 w_g2577
set_option maxRecDepth 100000 in
theorem w_g2578 : w_g (nat_lit 2578) = true := by decide +kernel
theorem w_r2579 : w_rg 2579 := w_rg_s (n := 2578) w_r2578 w_g2578
set_option maxRecDepth 100000 in
theorem w_g2579 : w_g (nat_lit 2579) = true := by decide +kernel
theorem w_r2580 : w_rg 2580 := w_rg_s (n := 2579) w_r2579 w_g2579
set_option maxRecDepth 100000 in
theorem w_g2580 : w_g (nat_lit 2580) = true := by decide +kernel
theorem w_r2581 : w_rg 2581 := w_rg_s (n := 2580) w_r2580 w_g2580
set_option maxRecDepth 100000 in
theorem w_g2581 : w_g (nat_lit 2581) = true := by decide +kernel
theorem w_r2582 : w_rg 2582 := w_rg_s (n := 2581) w_r2581 w_g2581
set_option maxRecDepth 100000 in
theorem w_g2582 : w_g (nat_lit 2582) = true := by decide +kernel
theorem w_r2583 : w_rg 2583 := w_rg_s (n := 2582) w_r2582 w_g2582
set_option maxRecDepth 100000 in
theorem w_g2583 : w_g (nat_lit 2583) = true := by decide +kernel
theorem w_r2584 : w_rg 2584 := w_rg_s (n := 2583) w_r2583 w_g2583
set_option maxRecDepth 100000 in
theorem w_g2584 : w_g (nat_lit 2584) = true := by decide +kernel
theorem w_r2585 : w_rg 2585 := w_rg_s (n := 2584) w_r2584 w_g2584
set_option maxRecDepth 100000 in
theorem w_g2585 : w_g (nat_lit 2585) = true := by decide +kernel
theorem w_r2586 : w_rg 2586 := w_rg_s (n := 2585) w_r2585 w_g2585
set_option maxRecDepth 100000 in
theorem w_g2586 : w_g (nat_lit 2586) = true := by decide +kernel
theorem w_r2587 : w_rg 2587 := w_rg_s (n := 2586) w_r2586 w_g2586
