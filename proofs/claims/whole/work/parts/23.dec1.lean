theorem dL_law__361 : decode cL_law_ 361 = .ok (.aload_n 3, 1) := by decide +kernel
theorem dL_law__362 : decode cL_law_ 362 = .ok (.iconst 0, 1) := by decide +kernel
theorem dL_law__363 : decode cL_law_ 363 = .ok (.laload, 1) := by decide +kernel
theorem dL_law__364 : decode cL_law_ 364 = .ok (.iload 6, 2) := by decide +kernel
theorem dL_law__366 : decode cL_law_ 366 = .ok (.i2l, 1) := by decide +kernel
theorem dL_law__367 : decode cL_law_ 367 = .ok (.lcmp, 1) := by decide +kernel
theorem dL_law__368 : decode cL_law_ 368 = .ok (.ifCond .eq 5, 3) := by decide +kernel
theorem dL_law__371 : decode cL_law_ 371 = .ok (.iconst 0, 1) := by decide +kernel
theorem dL_law__372 : decode cL_law_ 372 = .ok (.ireturn, 1) := by decide +kernel
theorem dL_law__373 : decode cL_law_ 373 = .ok (.goto 1398, 3) := by decide +kernel
theorem dL_law__376 : decode cL_law_ 376 = .ok (.aload_n 1, 1) := by decide +kernel
theorem dL_law__377 : decode cL_law_ 377 = .ok (.aload_n 0, 1) := by decide +kernel
theorem dL_law__378 : decode cL_law_ 378 = .ok (.iload 4, 2) := by decide +kernel
theorem dL_law__380 : decode cL_law_ 380 = .ok (.iconst 1, 1) := by decide +kernel
theorem dL_law__381 : decode cL_law_ 381 = .ok (.iadd, 1) := by decide +kernel
theorem dL_law__382 : decode cL_law_ 382 = .ok (.iaload, 1) := by decide +kernel
theorem dL_law__383 : decode cL_law_ 383 = .ok (.aload_n 0, 1) := by decide +kernel
theorem dL_law__384 : decode cL_law_ 384 = .ok (.iload 4, 2) := by decide +kernel
theorem dL_law__386 : decode cL_law_ 386 = .ok (.iconst 2, 1) := by decide +kernel
theorem dL_law__387 : decode cL_law_ 387 = .ok (.iadd, 1) := by decide +kernel
theorem dL_law__388 : decode cL_law_ 388 = .ok (.iaload, 1) := by decide +kernel
theorem dL_law__389 : decode cL_law_ 389 = .ok (.aload_n 3, 1) := by decide +kernel
theorem dL_law__390 : decode cL_law_ 390 = .ok (.invokestatic 113, 3) := by decide +kernel
theorem dL_law__393 : decode cL_law_ 393 = .ok (.istore 5, 2) := by decide +kernel
theorem dL_law__395 : decode cL_law_ 395 = .ok (.aload_n 2, 1) := by decide +kernel
theorem dL_law__396 : decode cL_law_ 396 = .ok (.aload_n 0, 1) := by decide +kernel
theorem dL_law__397 : decode cL_law_ 397 = .ok (.iload 4, 2) := by decide +kernel
theorem dL_law__399 : decode cL_law_ 399 = .ok (.iconst 1, 1) := by decide +kernel
theorem dL_law__400 : decode cL_law_ 400 = .ok (.iadd, 1) := by decide +kernel
theorem dL_law__401 : decode cL_law_ 401 = .ok (.iaload, 1) := by decide +kernel
theorem dL_law__402 : decode cL_law_ 402 = .ok (.aload_n 0, 1) := by decide +kernel
theorem dL_law__403 : decode cL_law_ 403 = .ok (.iload 4, 2) := by decide +kernel
theorem dL_law__405 : decode cL_law_ 405 = .ok (.iconst 2, 1) := by decide +kernel
theorem dL_law__406 : decode cL_law_ 406 = .ok (.iadd, 1) := by decide +kernel
theorem dL_law__407 : decode cL_law_ 407 = .ok (.iaload, 1) := by decide +kernel
theorem dL_law__408 : decode cL_law_ 408 = .ok (.invokevirtual 115, 3) := by decide +kernel
theorem dL_law__411 : decode cL_law_ 411 = .ok (.istore 6, 2) := by decide +kernel
theorem dL_law__413 : decode cL_law_ 413 = .ok (.aload_n 2, 1) := by decide +kernel
theorem dL_law__414 : decode cL_law_ 414 = .ok (.invokevirtual 102, 3) := by decide +kernel
theorem dL_law__417 : decode cL_law_ 417 = .ok (.iload 5, 2) := by decide +kernel
theorem dL_law__419 : decode cL_law_ 419 = .ok (.if_icmp .eq 5, 3) := by decide +kernel
theorem dL_law__422 : decode cL_law_ 422 = .ok (.iconst 0, 1) := by decide +kernel
theorem dL_law__423 : decode cL_law_ 423 = .ok (.ireturn, 1) := by decide +kernel
theorem dL_law__424 : decode cL_law_ 424 = .ok (.iload 5, 2) := by decide +kernel
theorem dL_law__426 : decode cL_law_ 426 = .ok (.ifCond .ne 15, 3) := by decide +kernel
theorem dL_law__429 : decode cL_law_ 429 = .ok (.aload_n 3, 1) := by decide +kernel
theorem dL_law__430 : decode cL_law_ 430 = .ok (.iconst 0, 1) := by decide +kernel
theorem dL_law__431 : decode cL_law_ 431 = .ok (.laload, 1) := by decide +kernel
theorem dL_law__432 : decode cL_law_ 432 = .ok (.iload 6, 2) := by decide +kernel
theorem dL_law__434 : decode cL_law_ 434 = .ok (.i2l, 1) := by decide +kernel
theorem dL_law__435 : decode cL_law_ 435 = .ok (.lcmp, 1) := by decide +kernel
theorem dL_law__436 : decode cL_law_ 436 = .ok (.ifCond .eq 5, 3) := by decide +kernel
theorem dL_law__439 : decode cL_law_ 439 = .ok (.iconst 0, 1) := by decide +kernel
theorem dL_law__440 : decode cL_law_ 440 = .ok (.ireturn, 1) := by decide +kernel
theorem dL_law__441 : decode cL_law_ 441 = .ok (.goto 1330, 3) := by decide +kernel
theorem dL_law__444 : decode cL_law_ 444 = .ok (.aload_n 1, 1) := by decide +kernel
theorem dL_law__445 : decode cL_law_ 445 = .ok (.aload_n 0, 1) := by decide +kernel
theorem dL_law__446 : decode cL_law_ 446 = .ok (.iload 4, 2) := by decide +kernel
theorem dL_law__448 : decode cL_law_ 448 = .ok (.iconst 1, 1) := by decide +kernel
theorem dL_law__449 : decode cL_law_ 449 = .ok (.iadd, 1) := by decide +kernel
theorem dL_law__450 : decode cL_law_ 450 = .ok (.iaload, 1) := by decide +kernel
theorem dL_law__451 : decode cL_law_ 451 = .ok (.aload_n 3, 1) := by decide +kernel
theorem dL_law__452 : decode cL_law_ 452 = .ok (.invokestatic 116, 3) := by decide +kernel
theorem dL_law__455 : decode cL_law_ 455 = .ok (.istore 5, 2) := by decide +kernel
theorem dL_law__457 : decode cL_law_ 457 = .ok (.aload_n 2, 1) := by decide +kernel
theorem dL_law__458 : decode cL_law_ 458 = .ok (.aload_n 0, 1) := by decide +kernel
theorem dL_law__459 : decode cL_law_ 459 = .ok (.iload 4, 2) := by decide +kernel
theorem dL_law__461 : decode cL_law_ 461 = .ok (.iconst 1, 1) := by decide +kernel
theorem dL_law__462 : decode cL_law_ 462 = .ok (.iadd, 1) := by decide +kernel
theorem dL_law__463 : decode cL_law_ 463 = .ok (.iaload, 1) := by decide +kernel
theorem dL_law__464 : decode cL_law_ 464 = .ok (.invokevirtual 118, 3) := by decide +kernel
theorem dL_law__467 : decode cL_law_ 467 = .ok (.istore 6, 2) := by decide +kernel
theorem dL_law__469 : decode cL_law_ 469 = .ok (.aload_n 2, 1) := by decide +kernel
theorem dL_law__470 : decode cL_law_ 470 = .ok (.invokevirtual 102, 3) := by decide +kernel
theorem dL_law__473 : decode cL_law_ 473 = .ok (.iload 5, 2) := by decide +kernel
theorem dL_law__475 : decode cL_law_ 475 = .ok (.if_icmp .eq 5, 3) := by decide +kernel
theorem dL_law__478 : decode cL_law_ 478 = .ok (.iconst 0, 1) := by decide +kernel
theorem dL_law__479 : decode cL_law_ 479 = .ok (.ireturn, 1) := by decide +kernel
theorem dL_law__480 : decode cL_law_ 480 = .ok (.iload 5, 2) := by decide +kernel
theorem dL_law__482 : decode cL_law_ 482 = .ok (.ifCond .ne 15, 3) := by decide +kernel
theorem dL_law__485 : decode cL_law_ 485 = .ok (.aload_n 3, 1) := by decide +kernel
theorem dL_law__486 : decode cL_law_ 486 = .ok (.iconst 0, 1) := by decide +kernel
theorem dL_law__487 : decode cL_law_ 487 = .ok (.laload, 1) := by decide +kernel
theorem dL_law__488 : decode cL_law_ 488 = .ok (.iload 6, 2) := by decide +kernel
theorem dL_law__490 : decode cL_law_ 490 = .ok (.i2l, 1) := by decide +kernel
theorem dL_law__491 : decode cL_law_ 491 = .ok (.lcmp, 1) := by decide +kernel
theorem dL_law__492 : decode cL_law_ 492 = .ok (.ifCond .eq 5, 3) := by decide +kernel
theorem dL_law__495 : decode cL_law_ 495 = .ok (.iconst 0, 1) := by decide +kernel
theorem dL_law__496 : decode cL_law_ 496 = .ok (.ireturn, 1) := by decide +kernel
theorem dL_law__497 : decode cL_law_ 497 = .ok (.goto 1274, 3) := by decide +kernel
theorem dL_law__500 : decode cL_law_ 500 = .ok (.aload_n 1, 1) := by decide +kernel
theorem dL_law__501 : decode cL_law_ 501 = .ok (.aload_n 0, 1) := by decide +kernel
theorem dL_law__502 : decode cL_law_ 502 = .ok (.iload 4, 2) := by decide +kernel
theorem dL_law__504 : decode cL_law_ 504 = .ok (.iconst 1, 1) := by decide +kernel
theorem dL_law__505 : decode cL_law_ 505 = .ok (.iadd, 1) := by decide +kernel
theorem dL_law__506 : decode cL_law_ 506 = .ok (.iaload, 1) := by decide +kernel
theorem dL_law__507 : decode cL_law_ 507 = .ok (.aload_n 3, 1) := by decide +kernel
theorem dL_law__508 : decode cL_law_ 508 = .ok (.invokestatic 119, 3) := by decide +kernel
theorem dL_law__511 : decode cL_law_ 511 = .ok (.istore 5, 2) := by decide +kernel
theorem dL_law__513 : decode cL_law_ 513 = .ok (.aload_n 2, 1) := by decide +kernel
theorem dL_law__514 : decode cL_law_ 514 = .ok (.aload_n 0, 1) := by decide +kernel
theorem dL_law__515 : decode cL_law_ 515 = .ok (.iload 4, 2) := by decide +kernel
theorem dL_law__517 : decode cL_law_ 517 = .ok (.iconst 1, 1) := by decide +kernel
theorem dL_law__518 : decode cL_law_ 518 = .ok (.iadd, 1) := by decide +kernel
theorem dL_law__519 : decode cL_law_ 519 = .ok (.iaload, 1) := by decide +kernel
theorem dL_law__520 : decode cL_law_ 520 = .ok (.invokevirtual 121, 3) := by decide +kernel
theorem dL_law__523 : decode cL_law_ 523 = .ok (.istore 6, 2) := by decide +kernel
theorem dL_law__525 : decode cL_law_ 525 = .ok (.aload_n 2, 1) := by decide +kernel
theorem dL_law__526 : decode cL_law_ 526 = .ok (.invokevirtual 102, 3) := by decide +kernel
theorem dL_law__529 : decode cL_law_ 529 = .ok (.iload 5, 2) := by decide +kernel
theorem dL_law__531 : decode cL_law_ 531 = .ok (.if_icmp .eq 5, 3) := by decide +kernel
theorem dL_law__534 : decode cL_law_ 534 = .ok (.iconst 0, 1) := by decide +kernel
theorem dL_law__535 : decode cL_law_ 535 = .ok (.ireturn, 1) := by decide +kernel
theorem dL_law__536 : decode cL_law_ 536 = .ok (.iload 5, 2) := by decide +kernel
theorem dL_law__538 : decode cL_law_ 538 = .ok (.ifCond .ne 15, 3) := by decide +kernel
theorem dL_law__541 : decode cL_law_ 541 = .ok (.aload_n 3, 1) := by decide +kernel
theorem dL_law__542 : decode cL_law_ 542 = .ok (.iconst 0, 1) := by decide +kernel
theorem dL_law__543 : decode cL_law_ 543 = .ok (.laload, 1) := by decide +kernel
theorem dL_law__544 : decode cL_law_ 544 = .ok (.iload 6, 2) := by decide +kernel
theorem dL_law__546 : decode cL_law_ 546 = .ok (.i2l, 1) := by decide +kernel
theorem dL_law__547 : decode cL_law_ 547 = .ok (.lcmp, 1) := by decide +kernel
theorem dL_law__548 : decode cL_law_ 548 = .ok (.ifCond .eq 5, 3) := by decide +kernel
theorem dL_law__551 : decode cL_law_ 551 = .ok (.iconst 0, 1) := by decide +kernel
theorem dL_law__552 : decode cL_law_ 552 = .ok (.ireturn, 1) := by decide +kernel
theorem dL_law__553 : decode cL_law_ 553 = .ok (.goto 1218, 3) := by decide +kernel
theorem dL_law__556 : decode cL_law_ 556 = .ok (.aload_n 1, 1) := by decide +kernel
theorem dL_law__557 : decode cL_law_ 557 = .ok (.aload_n 0, 1) := by decide +kernel
theorem dL_law__558 : decode cL_law_ 558 = .ok (.iload 4, 2) := by decide +kernel
theorem dL_law__560 : decode cL_law_ 560 = .ok (.iconst 1, 1) := by decide +kernel
theorem dL_law__561 : decode cL_law_ 561 = .ok (.iadd, 1) := by decide +kernel
theorem dL_law__562 : decode cL_law_ 562 = .ok (.iaload, 1) := by decide +kernel
theorem dL_law__563 : decode cL_law_ 563 = .ok (.aload_n 3, 1) := by decide +kernel
theorem dL_law__564 : decode cL_law_ 564 = .ok (.invokestatic 122, 3) := by decide +kernel
theorem dL_law__567 : decode cL_law_ 567 = .ok (.istore 5, 2) := by decide +kernel
theorem dL_law__569 : decode cL_law_ 569 = .ok (.aload_n 2, 1) := by decide +kernel
theorem dL_law__570 : decode cL_law_ 570 = .ok (.aload_n 0, 1) := by decide +kernel
theorem dL_law__571 : decode cL_law_ 571 = .ok (.iload 4, 2) := by decide +kernel
theorem dL_law__573 : decode cL_law_ 573 = .ok (.iconst 1, 1) := by decide +kernel
theorem dL_law__574 : decode cL_law_ 574 = .ok (.iadd, 1) := by decide +kernel
theorem dL_law__575 : decode cL_law_ 575 = .ok (.iaload, 1) := by decide +kernel
theorem dL_law__576 : decode cL_law_ 576 = .ok (.invokevirtual 124, 3) := by decide +kernel
theorem dL_law__579 : decode cL_law_ 579 = .ok (.istore 6, 2) := by decide +kernel
theorem dL_law__581 : decode cL_law_ 581 = .ok (.aload_n 2, 1) := by decide +kernel
theorem dL_law__582 : decode cL_law_ 582 = .ok (.invokevirtual 102, 3) := by decide +kernel
theorem dL_law__585 : decode cL_law_ 585 = .ok (.iload 5, 2) := by decide +kernel
theorem dL_law__587 : decode cL_law_ 587 = .ok (.if_icmp .eq 5, 3) := by decide +kernel
theorem dL_law__590 : decode cL_law_ 590 = .ok (.iconst 0, 1) := by decide +kernel
theorem dL_law__591 : decode cL_law_ 591 = .ok (.ireturn, 1) := by decide +kernel
theorem dL_law__592 : decode cL_law_ 592 = .ok (.iload 5, 2) := by decide +kernel
theorem dL_law__594 : decode cL_law_ 594 = .ok (.ifCond .ne 15, 3) := by decide +kernel
