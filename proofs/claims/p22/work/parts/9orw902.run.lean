/-! the walk runs: 2 -/
set_option maxRecDepth 100000 in
theorem w_g398 : w_g (nat_lit 398) = true := by decide +kernel
theorem w_r399 : w_rg 399 := w_rg_s (n := 398) w_r398 w_g398
set_option maxRecDepth 100000 in
theorem w_g399 : w_g (nat_lit 399) = true := by decide +kernel
theorem w_r400 : w_rg 400 := w_rg_s (n := 399) w_r399 w_g399
set_option maxRecDepth 100000 in
theorem w_g400 : w_g (nat_lit 400) = true := by decide +kernel
theorem w_r401 : w_rg 401 := w_rg_s (n := 400) w_r400 w_g400
set_option maxRecDepth 100000 in
theorem w_g401 : w_g (nat_lit 401) = true := by decide +kernel
theorem w_r402 : w_rg 402 := w_rg_s (n := 401) w_r401 w_g401
set_option maxRecDepth 100000 in
theorem w_g402 : w_g (nat_lit 402) = true := by decide +kernel
theorem w_r403 : w_rg 403 := w_rg_s (n := 402) w_r402 w_g402
set_option maxRecDepth 100000 in
theorem w_g403 : w_g (nat_lit 403) = true := by decide +kernel
theorem w_r404 : w_rg 404 := w_rg_s (n := 403) w_r403 w_g403
set_option maxRecDepth 100000 in
theorem w_g404 : w_g (nat_lit 404) = true := by decide +kernel
theorem w_r405 : w_rg 405 := w_rg_s (n := 404) w_r404 w_g404
set_option maxRecDepth 100000 in
theorem w_g405 : w_g (nat_lit 405) = true := by decide +kernel
theorem w_r406 : w_rg 406 := w_rg_s (n := 405) w_r405 w_g405
set_option maxRecDepth 100000 in
theorem w_g406 : w_g (nat_lit 406) = true := by decide +kernel
theorem w_r407 : w_rg 407 := w_rg_s (n := 406) w_r406 w_g406
set_option maxRecDepth 100000 in
theorem w_g407 : w_g (nat_lit 407) = true := by decide +kernel
theorem w_r408 : w_rg 408 := w_rg_s (n := 407) w_r407 w_g407
set_option maxRecDepth 100000 in
theorem w_g408 : w_g (nat_lit 408) = true := by decide +kernel
theorem w_r409 : w_rg 409 := w_rg_s (n := 408) w_r408 w_g408
set_option maxRecDepth 100000 in
theorem w_g409 : w_g (nat_lit 409) = true := by decide +kernel
theorem w_r410 : w_rg 410 := w_rg_s (n := 409) w_r409 w_g409
set_option maxRecDepth 100000 in
theorem w_g410 : w_g (nat_lit 410) = true := by decide +kernel
theorem w_r411 : w_rg 411 := w_rg_s (n := 410) w_r410 w_g410
set_option maxRecDepth 100000 in
theorem w_g411 : w_g (nat_lit 411) = true := by decide +kernel
theorem w_r412 : w_rg 412 := w_rg_s (n := 411) w_r411 w_g411
set_option maxRecDepth 100000 in
theorem w_g412 : w_g (nat_lit 412) = true := by decide +kernel
theorem w_r413 : w_rg 413 := w_rg_s (n := 412) w_r412 w_g412
set_option maxRecDepth 100000 in
theorem w_g413 : w_g (nat_lit 413) = true := by decide +kernel
theorem w_r414 : w_rg 414 := w_rg_s (n := 413) w_r413 w_g413
set_option maxRecDepth 100000 in
theorem w_g414 : w_g (nat_lit 414) = true := by decide +kernel
theorem w_r415 : w_rg 415 := w_rg_s (n := 414) w_r414 w_g414
set_option maxRecDepth 100000 in
theorem w_g415 : w_g (nat_lit 415) = true := by decide +kernel
theorem w_r416 : w_rg 416 := w_rg_s (n := 415) w_r415 w_g415
set_option maxRecDepth 100000 in
theorem w_g416 : w_g (nat_lit 416) = true := by decide +kernel
theorem w_r417 : w_rg 417 := w_rg_s (n := 416) w_r416 w_g416
set_option maxRecDepth 100000 in
theorem w_g417 : w_g (nat_lit 417) = true := by decide +kernel
theorem w_r418 : w_rg 418 := w_rg_s (n := 417) w_r417 w_g417
set_option maxRecDepth 100000 in
theorem w_g418 : w_g (nat_lit 418) = true := by decide +kernel
theorem w_r419 : w_rg 419 := w_rg_s (n := 418) w_r418 w_g418
set_option maxRecDepth 100000 in
theorem w_g419 : w_g (nat_lit 419) = true := by decide +kernel
theorem w_r420 : w_rg 420 := w_rg_s (n := 419) w_r419 w_g419
set_option maxRecDepth 100000 in
theorem w_g420 : w_g (nat_lit 420) = true := by decide +kernel
theorem w_r421 : w_rg 421 := w_rg_s (n := 420) w_r420 w_g420
set_option maxRecDepth 100000 in
theorem w_g421 : w_g (nat_lit 421) = true := by decide +kernel
theorem w_r422 : w_rg 422 := w_rg_s (n := 421) w_r421 w_g421
set_option maxRecDepth 100000 in
theorem w_g422 : w_g (nat_lit 422) = true := by decide +kernel
theorem w_r423 : w_rg 423 := w_rg_s (n := 422) w_r422 w_g422
set_option maxRecDepth 100000 in
theorem w_g423 : w_g (nat_lit 423) = true := by decide +kernel
theorem w_r424 : w_rg 424 := w_rg_s (n := 423) w_r423 w_g423
set_option maxRecDepth 100000 in
theorem w_g424 : w_g (nat_lit 424) = true := by decide +kernel
theorem w_r425 : w_rg 425 := w_rg_s (n := 424) w_r424 w_g424
set_option maxRecDepth 100000 in
theorem w_g425 : w_g (nat_lit 425) = true := by decide +kernel
theorem w_r426 : w_rg 426 := w_rg_s (n := 425) w_r425 w_g425
set_option maxRecDepth 100000 in
theorem w_g426 : w_g (nat_lit 426) = true := by decide +kernel
theorem w_r427 : w_rg 427 := w_rg_s (n := 426) w_r426 w_g426
set_option maxRecDepth 100000 in
theorem w_g427 : w_g (nat_lit 427) = true := by decide +kernel
theorem w_r428 : w_rg 428 := w_rg_s (n := 427) w_r427 w_g427
set_option maxRecDepth 100000 in
theorem w_g428 : w_g (nat_lit 428) = true := by decide +kernel
theorem w_r429 : w_rg 429 := w_rg_s (n := 428) w_r428 w_g428
set_option maxRecDepth 100000 in
theorem w_g429 : w_g (nat_lit 429) = true := by decide +kernel
theorem w_r430 : w_rg 430 := w_rg_s (n := 429) w_r429 w_g429
set_option maxRecDepth 100000 in
theorem w_g430 : w_g (nat_lit 430) = true := by decide +kernel
theorem w_r431 : w_rg 431 := w_rg_s (n := 430) w_r430 w_g430
set_option maxRecDepth 100000 in
theorem w_g431 : w_g (nat_lit 431) = true := by decide +kernel
theorem w_r432 : w_rg 432 := w_rg_s (n := 431) w_r431 w_g431
set_option maxRecDepth 100000 in
theorem w_g432 : w_g (nat_lit 432) = true := by decide +kernel
theorem w_r433 : w_rg 433 := w_rg_s (n := 432) w_r432 w_g432
set_option maxRecDepth 100000 in
theorem w_g433 : w_g (nat_lit 433) = true := by decide +kernel
theorem w_r434 : w_rg 434 := w_rg_s (n := 433) w_r433 w_g433
set_option maxRecDepth 100000 in
theorem w_g434 : w_g (nat_lit 434) = true := by decide +kernel
theorem w_r435 : w_rg 435 := w_rg_s (n := 434) w_r434 w_g434
set_option maxRecDepth 100000 in
theorem w_g435 : w_g (nat_lit 435) = true := by decide +kernel
theorem w_r436 : w_rg 436 := w_rg_s (n := 435) w_r435 w_g435
set_option maxRecDepth 100000 in
theorem w_g436 : w_g (nat_lit 436) = true := by decide +kernel
theorem w_r437 : w_rg 437 := w_rg_s (n := 436) w_r436 w_g436
set_option maxRecDepth 100000 in
theorem w_g437 : w_g (nat_lit 437) = true := by decide +kernel
theorem w_r438 : w_rg 438 := w_rg_s (n := 437) w_r437 w_g437
set_option maxRecDepth 100000 in
theorem w_g438 : w_g (nat_lit 438) = true := by decide +kernel
theorem w_r439 : w_rg 439 := w_rg_s (n := 438) w_r438 w_g438
set_option maxRecDepth 100000 in
theorem w_g439 : w_g (nat_lit 439) = true := by decide +kernel
theorem w_r440 : w_rg 440 := w_rg_s (n := 439) w_r439 w_g439
set_option maxRecDepth 100000 in
theorem w_g440 : w_g (nat_lit 440) = true := by decide +kernel
theorem w_r441 : w_rg 441 := w_rg_s (n := 440) w_r440 w_g440
set_option maxRecDepth 100000 in
theorem w_g441 : w_g (nat_lit 441) = true := by decide +kernel
theorem w_r442 : w_rg 442 := w_rg_s (n := 441) w_r441 w_g441
set_option maxRecDepth 100000 in
theorem w_g442 : w_g (nat_lit 442) = true := by decide +kernel
theorem w_r443 : w_rg 443 := w_rg_s (n := 442) w_r442 w_g442
set_option maxRecDepth 100000 in
theorem w_g443 : w_g (nat_lit 443) = true := by decide +kernel
theorem w_r444 : w_rg 444 := w_rg_s (n := 443) w_r443 w_g443
set_option maxRecDepth 100000 in
theorem w_g444 : w_g (nat_lit 444) = true := by decide +kernel
theorem w_r445 : w_rg 445 := w_rg_s (n := 444) w_r444 w_g444
set_option maxRecDepth 100000 in
theorem w_g445 : w_g (nat_lit 445) = true := by decide +kernel
theorem w_r446 : w_rg 446 := w_rg_s (n := 445) w_r445 w_g445
set_option maxRecDepth 100000 in
theorem w_g446 : w_g (nat_lit 446) = true := by decide +kernel
theorem w_r447 : w_rg 447 := w_rg_s (n := 446) w_r446 w_g446
set_option maxRecDepth 100000 in
theorem w_g447 : w_g (nat_lit 447) = true := by decide +kernel
theorem w_r448 : w_rg 448 := w_rg_s (n := 447) w_r447 w_g447
set_option maxRecDepth 100000 in
theorem w_g448 : w_g (nat_lit 448) = true := by decide +kernel
theorem w_r449 : w_rg 449 := w_rg_s (n := 448) w_r448 w_g448
set_option maxRecDepth 100000 in
theorem w_g449 : w_g (nat_lit 449) = true := by decide +kernel
theorem w_r450 : w_rg 450 := w_rg_s (n := 449) w_r449 w_g449
set_option maxRecDepth 100000 in
theorem w_g450 : w_g (nat_lit 450) = true := by decide +kernel
theorem w_r451 : w_rg 451 := w_rg_s (n := 450) w_r450 w_g450
set_option maxRecDepth 100000 in
theorem w_g451 : w_g (nat_lit 451) = true := by decide +kernel
theorem w_r452 : w_rg 452 := w_rg_s (n := 451) w_r451 w_g451
set_option maxRecDepth 100000 in
theorem w_g452 : w_g (nat_lit 452) = true := by decide +kernel
theorem w_r453 : w_rg 453 := w_rg_s (n := 452) w_r452 w_g452
set_option maxRecDepth 100000 in
theorem w_g453 : w_g (nat_lit 453) = true := by decide +kernel
theorem w_r454 : w_rg 454 := w_rg_s (n := 453) w_r453 w_g453
set_option maxRecDepth 100000 in
theorem w_g454 : w_g (nat_lit 454) = true := by decide +kernel
theorem w_r455 : w_rg 455 := w_rg_s (n := 454) w_r454 w_g454
set_option maxRecDepth 100000 in
theorem w_g455 : w_g (nat_lit 455) = true := by decide +kernel
theorem w_r456 : w_rg 456 := w_rg_s (n := 455) w_r455 w_g455
set_option maxRecDepth 100000 in
theorem w_g456 : w_g (nat_lit 456) = true := by decide +kernel
theorem w_r457 : w_rg 457 := w_rg_s (n := 456) w_r456 w_g456
set_option maxRecDepth 100000 in
theorem w_g457 : w_g (nat_lit 457) = true := by decide +kernel
theorem w_r458 : w_rg 458 := w_rg_s (n := 457) w_r457 w_g457
set_option maxRecDepth 100000 in
theorem w_g458 : w_g (nat_lit 458) = true := by decide +kernel
theorem w_r459 : w_rg 459 := w_rg_s (n := 458) w_r458 w_g458
set_option maxRecDepth 100000 in
theorem w_g459 : w_g (nat_lit 459) = true := by decide +kernel
theorem w_r460 : w_rg 460 := w_rg_s (n := 459) w_r459 w_g459
set_option maxRecDepth 100000 in
theorem w_g460 : w_g (nat_lit 460) = true := by decide +kernel
theorem w_r461 : w_rg 461 := w_rg_s (n := 460) w_r460 w_g460
set_option maxRecDepth 100000 in
theorem w_g461 : w_g (nat_lit 461) = true := by decide +kernel
theorem w_r462 : w_rg 462 := w_rg_s (n := 461) w_r461 w_g461
set_option maxRecDepth 100000 in
theorem w_g462 : w_g (nat_lit 462) = true := by decide +kernel
theorem w_r463 : w_rg 463 := w_rg_s (n := 462) w_r462 w_g462
set_option maxRecDepth 100000 in
theorem w_g463 : w_g (nat_lit 463) = true := by decide +kernel
theorem w_r464 : w_rg 464 := w_rg_s (n := 463) w_r463 w_g463
set_option maxRecDepth 100000 in
theorem w_g464 : w_g (nat_lit 464) = true := by decide +kernel
theorem w_r465 : w_rg 465 := w_rg_s (n := 464) w_r464 w_g464
set_option maxRecDepth 100000 in
theorem w_g465 : w_g (nat_lit 465) = true := by decide +kernel
theorem w_r466 : w_rg 466 := w_rg_s (n := 465) w_r465 w_g465
set_option maxRecDepth 100000 in
theorem w_g466 : w_g (nat_lit 466) = true := by decide +kernel
theorem w_r467 : w_rg 467 := w_rg_s (n := 466) w_r466 w_g466
set_option maxRecDepth 100000 in
theorem w_g467 : w_g (nat_lit 467) = true := by decide +kernel
theorem w_r468 : w_rg 468 := w_rg_s (n := 467) w_r467 w_g467
set_option maxRecDepth 100000 in
theorem w_g468 : w_g (nat_lit 468) = true := by decide +kernel
theorem w_r469 : w_rg 469 := w_rg_s (n := 468) w_r468 w_g468
set_option maxRecDepth 100000 in
theorem w_g469 : w_g (nat_lit 469) = true := by decide +kernel
theorem w_r470 : w_rg 470 := w_rg_s (n := 469) w_r469 w_g469
set_option maxRecDepth 100000 in
theorem w_g470 : w_g (nat_lit 470) = true := by decide +kernel
theorem w_r471 : w_rg 471 := w_rg_s (n := 470) w_r470 w_g470
set_option maxRecDepth 100000 in
theorem w_g471 : w_g (nat_lit 471) = true := by decide +kernel
theorem w_r472 : w_rg 472 := w_rg_s (n := 471) w_r471 w_g471
set_option maxRecDepth 100000 in
theorem w_g472 : w_g (nat_lit 472) = true := by decide +kernel
theorem w_r473 : w_rg 473 := w_rg_s (n := 472) w_r472 w_g472
set_option maxRecDepth 100000 in
theorem w_g473 : w_g (nat_lit 473) = true := by decide +kernel
theorem w_r474 : w_rg 474 := w_rg_s (n := 473) w_r473 w_g473
set_option maxRecDepth 100000 in
theorem w_g474 : w_g (nat_lit 474) = true := by decide +kernel
theorem w_r475 : w_rg 475 := w_rg_s (n := 474) w_r474 w_g474
set_option maxRecDepth 100000 in
theorem w_g475 : w_g (nat_lit 475) = true := by decide +kernel
theorem w_r476 : w_rg 476 := w_rg_s (n := 475) w_r475 w_g475
set_option maxRecDepth 100000 in
theorem w_g476 : w_g (nat_lit 476) = true := by decide +kernel
theorem w_r477 : w_rg 477 := w_rg_s (n := 476) w_r476 w_g476
set_option maxRecDepth 100000 in
theorem w_g477 : w_g (nat_lit 477) = true := by decide +kernel
theorem w_r478 : w_rg 478 := w_rg_s (n := 477) w_r477 w_g477
set_option maxRecDepth 100000 in
theorem w_g478 : w_g (nat_lit 478) = true := by decide +kernel
theorem w_r479 : w_rg 479 := w_rg_s (n := 478) w_r478 w_g478
set_option maxRecDepth 100000 in
theorem w_g479 : w_g (nat_lit 479) = true := by decide +kernel
theorem w_r480 : w_rg 480 := w_rg_s (n := 479) w_r479 w_g479
set_option maxRecDepth 100000 in
theorem w_g480 : w_g (nat_lit 480) = true := by decide +kernel
theorem w_r481 : w_rg 481 := w_rg_s (n := 480) w_r480 w_g480
set_option maxRecDepth 100000 in
theorem w_g481 : w_g (nat_lit 481) = true := by decide +kernel
theorem w_r482 : w_rg 482 := w_rg_s (n := 481) w_r481 w_g481
set_option maxRecDepth 100000 in
theorem w_g482 : w_g (nat_lit 482) = true := by decide +kernel
theorem w_r483 : w_rg 483 := w_rg_s (n := 482) w_r482 w_g482
set_option maxRecDepth 100000 in
theorem w_g483 : w_g (nat_lit 483) = true := by decide +kernel
theorem w_r484 : w_rg 484 := w_rg_s (n := 483) w_r483 w_g483
set_option maxRecDepth 100000 in
theorem w_g484 : w_g (nat_lit 484) = true := by decide +kernel
theorem w_r485 : w_rg 485 := w_rg_s (n := 484) w_r484 w_g484
set_option maxRecDepth 100000 in
theorem w_g485 : w_g (nat_lit 485) = true := by decide +kernel
theorem w_r486 : w_rg 486 := w_rg_s (n := 485) w_r485 w_g485
set_option maxRecDepth 100000 in
theorem w_g486 : w_g (nat_lit 486) = true := by decide +kernel
theorem w_r487 : w_rg 487 := w_rg_s (n := 486) w_r486 w_g486
set_option maxRecDepth 100000 in
theorem w_g487 : w_g (nat_lit 487) = true := by decide +kernel
theorem w_r488 : w_rg 488 := w_rg_s (n := 487) w_r487 w_g487
set_option maxRecDepth 100000 in
theorem w_g488 : w_g (nat_lit 488) = true := by decide +kernel
theorem w_r489 : w_rg 489 := w_rg_s (n := 488) w_r488 w_g488
set_option maxRecDepth 100000 in
theorem w_g489 : w_g (nat_lit 489) = true := by decide +kernel
theorem w_r490 : w_rg 490 := w_rg_s (n := 489) w_r489 w_g489
set_option maxRecDepth 100000 in
theorem w_g490 : w_g (nat_lit 490) = true := by decide +kernel
theorem w_r491 : w_rg 491 := w_rg_s (n := 490) w_r490 w_g490
set_option maxRecDepth 100000 in
theorem w_g491 : w_g (nat_lit 491) = true := by decide +kernel
theorem w_r492 : w_rg 492 := w_rg_s (n := 491) w_r491 w_g491
set_option maxRecDepth 100000 in
theorem w_g492 : w_g (nat_lit 492) = true := by decide +kernel
theorem w_r493 : w_rg 493 := w_rg_s (n := 492) w_r492 w_g492
set_option maxRecDepth 100000 in
theorem w_g493 : w_g (nat_lit 493) = true := by decide +kernel
theorem w_r494 : w_rg 494 := w_rg_s (n := 493) w_r493 w_g493
set_option maxRecDepth 100000 in
theorem w_g494 : w_g (nat_lit 494) = true := by decide +kernel
theorem w_r495 : w_rg 495 := w_rg_s (n := 494) w_r494 w_g494
set_option maxRecDepth 100000 in
theorem w_g495 : w_g (nat_lit 495) = true := by decide +kernel
theorem w_r496 : w_rg 496 := w_rg_s (n := 495) w_r495 w_g495
set_option maxRecDepth 100000 in
theorem w_g496 : w_g (nat_lit 496) = true := by decide +kernel
theorem w_r497 : w_rg 497 := w_rg_s (n := 496) w_r496 w_g496
set_option maxRecDepth 100000 in
theorem w_g497 : w_g (nat_lit 497) = true := by decide +kernel
theorem w_r498 : w_rg 498 := w_rg_s (n := 497) w_r497 w_g497
set_option maxRecDepth 100000 in
theorem w_g498 : w_g (nat_lit 498) = true := by decide +kernel
theorem w_r499 : w_rg 499 := w_rg_s (n := 498) w_r498 w_g498
set_option maxRecDepth 100000 in
theorem w_g499 : w_g (nat_lit 499) = true := by decide +kernel
theorem w_r500 : w_rg 500 := w_rg_s (n := 499) w_r499 w_g499
set_option maxRecDepth 100000 in
theorem w_g500 : w_g (nat_lit 500) = true := by decide +kernel
theorem w_r501 : w_rg 501 := w_rg_s (n := 500) w_r500 w_g500
set_option maxRecDepth 100000 in
theorem w_g501 : w_g (nat_lit 501) = true := by decide +kernel
theorem w_r502 : w_rg 502 := w_rg_s (n := 501) w_r501 w_g501
set_option maxRecDepth 100000 in
theorem w_g502 : w_g (nat_lit 502) = true := by decide +kernel
theorem w_r503 : w_rg 503 := w_rg_s (n := 502) w_r502 w_g502
set_option maxRecDepth 100000 in
theorem w_g503 : w_g (nat_lit 503) = true := by decide +kernel
theorem w_r504 : w_rg 504 := w_rg_s (n := 503) w_r503 w_g503
set_option maxRecDepth 100000 in
theorem w_g504 : w_g (nat_lit 504) = true := by decide +kernel
theorem w_r505 : w_rg 505 := w_rg_s (n := 504) w_r504 w_g504
set_option maxRecDepth 100000 in
theorem w_g505 : w_g (nat_lit 505) = true := by decide +kernel
theorem w_r506 : w_rg 506 := w_rg_s (n := 505) w_r505 w_g505
set_option maxRecDepth 100000 in
theorem w_g506 : w_g (nat_lit 506) = true := by decide +kernel
theorem w_r507 : w_rg 507 := w_rg_s (n := 506) w_r506 w_g506
set_option maxRecDepth 100000 in
theorem w_g507 : w_g (nat_lit 507) = true := by decide +kernel
theorem w_r508 : w_rg 508 := w_rg_s (n := 507) w_r507 w_g507
set_option maxRecDepth 100000 in
theorem w_g508 : w_g (nat_lit 508) = true := by decide +kernel
theorem w_r509 : w_rg 509 := w_rg_s (n := 508) w_r508 w_g508
set_option maxRecDepth 100000 in
theorem w_g509 : w_g (nat_lit 509) = true := by decide +kernel
theorem w_r510 : w_rg 510 := w_rg_s (n := 509) w_r509 w_g509
set_option maxRecDepth 100000 in
theorem w_g510 : w_g (nat_lit 510) = true := by decide +kernel
theorem w_r511 : w_rg 511 := w_rg_s (n := 510) w_r510 w_g510
set_option maxRecDepth 100000 in
theorem w_g511 : w_g (nat_lit 511) = true := by decide +kernel
theorem w_r512 : w_rg 512 := w_rg_s (n := 511) w_r511 w_g511
set_option maxRecDepth 100000 in
theorem w_g512 : w_g (nat_lit 512) = true := by decide +kernel
theorem w_r513 : w_rg 513 := w_rg_s (n := 512) w_r512 w_g512
set_option maxRecDepth 100000 in
theorem w_g513 : w_g (nat_lit 513) = true := by decide +kernel
theorem w_r514 : w_rg 514 := w_rg_s (n := 513) w_r513 w_g513
set_option maxRecDepth 100000 in
theorem w_g514 : w_g (nat_lit 514) = true := by decide +kernel
theorem w_r515 : w_rg 515 := w_rg_s (n := 514) w_r514 w_g514
set_option maxRecDepth 100000 in
theorem w_g515 : w_g (nat_lit 515) = true := by decide +kernel
theorem w_r516 : w_rg 516 := w_rg_s (n := 515) w_r515 w_g515
set_option maxRecDepth 100000 in
theorem w_g516 : w_g (nat_lit 516) = true := by decide +kernel
theorem w_r517 : w_rg 517 := w_rg_s (n := 516) w_r516 w_g516
set_option maxRecDepth 100000 in
theorem w_g517 : w_g (nat_lit 517) = true := by decide +kernel
theorem w_r518 : w_rg 518 := w_rg_s (n := 517) w_r517 w_g517
set_option maxRecDepth 100000 in
theorem w_g518 : w_g (nat_lit 518) = true := by decide +kernel
theorem w_r519 : w_rg 519 := w_rg_s (n := 518) w_r518 w_g518
set_option maxRecDepth 100000 in
theorem w_g519 : w_g (nat_lit 519) = true := by decide +kernel
theorem w_r520 : w_rg 520 := w_rg_s (n := 519) w_r519 w_g519
set_option maxRecDepth 100000 in
theorem w_g520 : w_g (nat_lit 520) = true := by decide +kernel
theorem w_r521 : w_rg 521 := w_rg_s (n := 520) w_r520 w_g520
set_option maxRecDepth 100000 in
theorem w_g521 : w_g (nat_lit 521) = true := by decide +kernel
theorem w_r522 : w_rg 522 := w_rg_s (n := 521) w_r521 w_g521
set_option maxRecDepth 100000 in
theorem w_g522 : w_g (nat_lit 522) = true := by decide +kernel
theorem w_r523 : w_rg 523 := w_rg_s (n := 522) w_r522 w_g522
set_option maxRecDepth 100000 in
theorem w_g523 : w_g (nat_lit 523) = true := by decide +kernel
theorem w_r524 : w_rg 524 := w_rg_s (n := 523) w_r523 w_g523
set_option maxRecDepth 100000 in
theorem w_g524 : w_g (nat_lit 524) = true := by decide +kernel
theorem w_r525 : w_rg 525 := w_rg_s (n := 524) w_r524 w_g524
set_option maxRecDepth 100000 in
theorem w_g525 : w_g (nat_lit 525) = true := by decide +kernel
theorem w_r526 : w_rg 526 := w_rg_s (n := 525) w_r525 w_g525
set_option maxRecDepth 100000 in
theorem w_g526 : w_g (nat_lit 526) = true := by decide +kernel
theorem w_r527 : w_rg 527 := w_rg_s (n := 526) w_r526 w_g526
set_option maxRecDepth 100000 in
theorem w_g527 : w_g (nat_lit 527) = true := by decide +kernel
theorem w_r528 : w_rg 528 := w_rg_s (n := 527) w_r527 w_g527
set_option maxRecDepth 100000 in
theorem w_g528 : w_g (nat_lit 528) = true := by decide +kernel
theorem w_r529 : w_rg 529 := w_rg_s (n := 528) w_r528 w_g528
set_option maxRecDepth 100000 in
theorem w_g529 : w_g (nat_lit 529) = true := by decide +kernel
theorem w_r530 : w_rg 530 := w_rg_s (n := 529) w_r529 w_g529
set_option maxRecDepth 100000 in
theorem w_g530 : w_g (nat_lit 530) = true := by decide +kernel
theorem w_r531 : w_rg 531 := w_rg_s (n := 530) w_r530 w_g530
set_option maxRecDepth 100000 in
theorem w_g531 : w_g (nat_lit 531) = true := by decide +kernel
theorem w_r532 : w_rg 532 := w_rg_s (n := 531) w_r531 w_g531
set_option maxRecDepth 100000 in
theorem w_g532 : w_g (nat_lit 532) = true := by decide +kernel
theorem w_r533 : w_rg 533 := w_rg_s (n := 532) w_r532 w_g532
set_option maxRecDepth 100000 in
theorem w_g533 : w_g (nat_lit 533) = true := by decide +kernel
theorem w_r534 : w_rg 534 := w_rg_s (n := 533) w_r533 w_g533
set_option maxRecDepth 100000 in
theorem w_g534 : w_g (nat_lit 534) = true := by decide +kernel
theorem w_r535 : w_rg 535 := w_rg_s (n := 534) w_r534 w_g534
set_option maxRecDepth 100000 in
theorem w_g535 : w_g (nat_lit 535) = true := by decide +kernel
theorem w_r536 : w_rg 536 := w_rg_s (n := 535) w_r535 w_g535
set_option maxRecDepth 100000 in
theorem w_g536 : w_g (nat_lit 536) = true := by decide +kernel
theorem w_r537 : w_rg 537 := w_rg_s (n := 536) w_r536 w_g536
set_option maxRecDepth 100000 in
theorem w_g537 : w_g (nat_lit 537) = true := by decide +kernel
theorem w_r538 : w_rg 538 := w_rg_s (n := 537) w_r537 w_g537
set_option maxRecDepth 100000 in
theorem w_g538 : w_g (nat_lit 538) = true := by decide +kernel
theorem w_r539 : w_rg 539 := w_rg_s (n := 538) w_r538 w_g538
set_option maxRecDepth 100000 in
theorem w_g539 : w_g (nat_lit 539) = true := by decide +kernel
theorem w_r540 : w_rg 540 := w_rg_s (n := 539) w_r539 w_g539
set_option maxRecDepth 100000 in
theorem w_g540 : w_g (nat_lit 540) = true := by decide +kernel
theorem w_r541 : w_rg 541 := w_rg_s (n := 540) w_r540 w_g540
set_option maxRecDepth 100000 in
theorem w_g541 : w_g (nat_lit 541) = true := by decide +kernel
theorem w_r542 : w_rg 542 := w_rg_s (n := 541) w_r541 w_g541
set_option maxRecDepth 100000 in
theorem w_g542 : w_g (nat_lit 542) = true := by decide +kernel
theorem w_r543 : w_rg 543 := w_rg_s (n := 542) w_r542 w_g542
set_option maxRecDepth 100000 in
theorem w_g543 : w_g (nat_lit 543) = true := by decide +kernel
theorem w_r544 : w_rg 544 := w_rg_s (n := 543) w_r543 w_g543
set_option maxRecDepth 100000 in
theorem w_g544 : w_g (nat_lit 544) = true := by decide +kernel
theorem w_r545 : w_rg 545 := w_rg_s (n := 544) w_r544 w_g544
set_option maxRecDepth 100000 in
theorem w_g545 : w_g (nat_lit 545) = true := by decide +kernel
theorem w_r546 : w_rg 546 := w_rg_s (n := 545) w_r545 w_g545
set_option maxRecDepth 100000 in
theorem w_g546 : w_g (nat_lit 546) = true := by decide +kernel
theorem w_r547 : w_rg 547 := w_rg_s (n := 546) w_r546 w_g546
set_option maxRecDepth 100000 in
theorem w_g547 : w_g (nat_lit 547) = true := by decide +kernel
theorem w_r548 : w_rg 548 := w_rg_s (n := 547) w_r547 w_g547
set_option maxRecDepth 100000 in
theorem w_g548 : w_g (nat_lit 548) = true := by decide +kernel
theorem w_r549 : w_rg 549 := w_rg_s (n := 548) w_r548 w_g548
set_option maxRecDepth 100000 in
theorem w_g549 : w_g (nat_lit 549) = true := by decide +kernel
theorem w_r550 : w_rg 550 := w_rg_s (n := 549) w_r549 w_g549
set_option maxRecDepth 100000 in
theorem w_g550 : w_g (nat_lit 550) = true := by decide +kernel
theorem w_r551 : w_rg 551 := w_rg_s (n := 550) w_r550 w_g550
set_option maxRecDepth 100000 in
theorem w_g551 : w_g (nat_lit 551) = true := by decide +kernel
theorem w_r552 : w_rg 552 := w_rg_s (n := 551) w_r551 w_g551
set_option maxRecDepth 100000 in
theorem w_g552 : w_g (nat_lit 552) = true := by decide +kernel
theorem w_r553 : w_rg 553 := w_rg_s (n := 552) w_r552 w_g552
set_option maxRecDepth 100000 in
theorem w_g553 : w_g (nat_lit 553) = true := by decide +kernel
theorem w_r554 : w_rg 554 := w_rg_s (n := 553) w_r553 w_g553
set_option maxRecDepth 100000 in
theorem w_g554 : w_g (nat_lit 554) = true := by decide +kernel
theorem w_r555 : w_rg 555 := w_rg_s (n := 554) w_r554 w_g554
set_option maxRecDepth 100000 in
theorem w_g555 : w_g (nat_lit 555) = true := by decide +kernel
theorem w_r556 : w_rg 556 := w_rg_s (n := 555) w_r555 w_g555
set_option maxRecDepth 100000 in
theorem w_g556 : w_g (nat_lit 556) = true := by decide +kernel
theorem w_r557 : w_rg 557 := w_rg_s (n := 556) w_r556 w_g556
set_option maxRecDepth 100000 in
theorem w_g557 : w_g (nat_lit 557) = true := by decide +kernel
theorem w_r558 : w_rg 558 := w_rg_s (n := 557) w_r557 w_g557
set_option maxRecDepth 100000 in
theorem w_g558 : w_g (nat_lit 558) = true := by decide +kernel
theorem w_r559 : w_rg 559 := w_rg_s (n := 558) w_r558 w_g558
set_option maxRecDepth 100000 in
theorem w_g559 : w_g (nat_lit 559) = true := by decide +kernel
theorem w_r560 : w_rg 560 := w_rg_s (n := 559) w_r559 w_g559
set_option maxRecDepth 100000 in
theorem w_g560 : w_g (nat_lit 560) = true := by decide +kernel
theorem w_r561 : w_rg 561 := w_rg_s (n := 560) w_r560 w_g560
set_option maxRecDepth 100000 in
theorem w_g561 : w_g (nat_lit 561) = true := by decide +kernel
theorem w_r562 : w_rg 562 := w_rg_s (n := 561) w_r561 w_g561
set_option maxRecDepth 100000 in
theorem w_g562 : w_g (nat_lit 562) = true := by decide +kernel
theorem w_r563 : w_rg 563 := w_rg_s (n := 562) w_r562 w_g562
set_option maxRecDepth 100000 in
theorem w_g563 : w_g (nat_lit 563) = true := by decide +kernel
theorem w_r564 : w_rg 564 := w_rg_s (n := 563) w_r563 w_g563
set_option maxRecDepth 100000 in
theorem w_g564 : w_g (nat_lit 564) = true := by decide +kernel
theorem w_r565 : w_rg 565 := w_rg_s (n := 564) w_r564 w_g564
set_option maxRecDepth 100000 in
theorem w_g565 : w_g (nat_lit 565) = true := by decide +kernel
theorem w_r566 : w_rg 566 := w_rg_s (n := 565) w_r565 w_g565
set_option maxRecDepth 100000 in
theorem w_g566 : w_g (nat_lit 566) = true := by decide +kernel
theorem w_r567 : w_rg 567 := w_rg_s (n := 566) w_r566 w_g566
set_option maxRecDepth 100000 in
theorem w_g567 : w_g (nat_lit 567) = true := by decide +kernel
theorem w_r568 : w_rg 568 := w_rg_s (n := 567) w_r567 w_g567
set_option maxRecDepth 100000 in
theorem w_g568 : w_g (nat_lit 568) = true := by decide +kernel
theorem w_r569 : w_rg 569 := w_rg_s (n := 568) w_r568 w_g568
set_option maxRecDepth 100000 in
theorem w_g569 : w_g (nat_lit 569) = true := by decide +kernel
theorem w_r570 : w_rg 570 := w_rg_s (n := 569) w_r569 w_g569
set_option maxRecDepth 100000 in
theorem w_g570 : w_g (nat_lit 570) = true := by decide +kernel
theorem w_r571 : w_rg 571 := w_rg_s (n := 570) w_r570 w_g570
set_option maxRecDepth 100000 in
theorem w_g571 : w_g (nat_lit 571) = true := by decide +kernel
theorem w_r572 : w_rg 572 := w_rg_s (n := 571) w_r571 w_g571
set_option maxRecDepth 100000 in
theorem w_g572 : w_g (nat_lit 572) = true := by decide +kernel
theorem w_r573 : w_rg 573 := w_rg_s (n := 572) w_r572 w_g572
set_option maxRecDepth 100000 in
theorem w_g573 : w_g (nat_lit 573) = true := by decide +kernel
theorem w_r574 : w_rg 574 := w_rg_s (n := 573) w_r573 w_g573
set_option maxRecDepth 100000 in
theorem w_g574 : w_g (nat_lit 574) = true := by decide +kernel
theorem w_r575 : w_rg 575 := w_rg_s (n := 574) w_r574 w_g574
set_option maxRecDepth 100000 in
theorem w_g575 : w_g (nat_lit 575) = true := by decide +kernel
theorem w_r576 : w_rg 576 := w_rg_s (n := 575) w_r575 w_g575
set_option maxRecDepth 100000 in
theorem w_g576 : w_g (nat_lit 576) = true := by decide +kernel
theorem w_r577 : w_rg 577 := w_rg_s (n := 576) w_r576 w_g576
set_option maxRecDepth 100000 in
theorem w_g577 : w_g (nat_lit 577) = true := by decide +kernel
theorem w_r578 : w_rg 578 := w_rg_s (n := 577) w_r577 w_g577
set_option maxRecDepth 100000 in
theorem w_g578 : w_g (nat_lit 578) = true := by decide +kernel
theorem w_r579 : w_rg 579 := w_rg_s (n := 578) w_r578 w_g578
set_option maxRecDepth 100000 in
theorem w_g579 : w_g (nat_lit 579) = true := by decide +kernel
theorem w_r580 : w_rg 580 := w_rg_s (n := 579) w_r579 w_g579
set_option maxRecDepth 100000 in
theorem w_g580 : w_g (nat_lit 580) = true := by decide +kernel
theorem w_r581 : w_rg 581 := w_rg_s (n := 580) w_r580 w_g580
set_option maxRecDepth 100000 in
theorem w_g581 : w_g (nat_lit 581) = true := by decide +kernel
theorem w_r582 : w_rg 582 := w_rg_s (n := 581) w_r581 w_g581
set_option maxRecDepth 100000 in
theorem w_g582 : w_g (nat_lit 582) = true := by decide +kernel
theorem w_r583 : w_rg 583 := w_rg_s (n := 582) w_r582 w_g582
set_option maxRecDepth 100000 in
theorem w_g583 : w_g (nat_lit 583) = true := by decide +kernel
theorem w_r584 : w_rg 584 := w_rg_s (n := 583) w_r583 w_g583
set_option maxRecDepth 100000 in
theorem w_g584 : w_g (nat_lit 584) = true := by decide +kernel
theorem w_r585 : w_rg 585 := w_rg_s (n := 584) w_r584 w_g584
set_option maxRecDepth 100000 in
theorem w_g585 : w_g (nat_lit 585) = true := by decide +kernel
theorem w_r586 : w_rg 586 := w_rg_s (n := 585) w_r585 w_g585
set_option maxRecDepth 100000 in
theorem w_g586 : w_g (nat_lit 586) = true := by decide +kernel
theorem w_r587 : w_rg 587 := w_rg_s (n := 586) w_r586 w_g586
set_option maxRecDepth 100000 in
theorem w_g587 : w_g (nat_lit 587) = true := by decide +kernel
theorem w_r588 : w_rg 588 := w_rg_s (n := 587) w_r587 w_g587
set_option maxRecDepth 100000 in
theorem w_g588 : w_g (nat_lit 588) = true := by decide +kernel
theorem w_r589 : w_rg 589 := w_rg_s (n := 588) w_r588 w_g588
set_option maxRecDepth 100000 in
theorem w_g589 : w_g (nat_lit 589) = true := by decide +kernel
theorem w_r590 : w_rg 590 := w_rg_s (n := 589) w_r589 w_g589
set_option maxRecDepth 100000 in
theorem w_g590 : w_g (nat_lit 590) = true := by decide +kernel
theorem w_r591 : w_rg 591 := w_rg_s (n := 590) w_r590 w_g590
set_option maxRecDepth 100000 in
theorem w_g591 : w_g (nat_lit 591) = true := by decide +kernel
theorem w_r592 : w_rg 592 := w_rg_s (n := 591) w_r591 w_g591
set_option maxRecDepth 100000 in
theorem w_g592 : w_g (nat_lit 592) = true := by decide +kernel
theorem w_r593 : w_rg 593 := w_rg_s (n := 592) w_r592 w_g592
set_option maxRecDepth 100000 in
theorem w_g593 : w_g (nat_lit 593) = true := by decide +kernel
theorem w_r594 : w_rg 594 := w_rg_s (n := 593) w_r593 w_g593
set_option maxRecDepth 100000 in
theorem w_g594 : w_g (nat_lit 594) = true := by decide +kernel
theorem w_r595 : w_rg 595 := w_rg_s (n := 594) w_r594 w_g594
set_option maxRecDepth 100000 in
theorem w_g595 : w_g (nat_lit 595) = true := by decide +kernel
theorem w_r596 : w_rg 596 := w_rg_s (n := 595) w_r595 w_g595
set_option maxRecDepth 100000 in
theorem w_g596 : w_g (nat_lit 596) = true := by decide +kernel
theorem w_r597 : w_rg 597 := w_rg_s (n := 596) w_r596 w_g596
