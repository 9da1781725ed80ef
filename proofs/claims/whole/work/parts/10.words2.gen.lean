/-! ===== words of the tables ===== -/
theorem wce_X1_init : CeI yX1_init cX1_init 1 0 := ⟨⟨h_tblm 223 (by decide +kernel) rfl, h_tblm 93 (by decide +kernel) rfl, by decide +kernel⟩, rfl, h_tblm 222 (by decide +kernel) rfl⟩
theorem wce_X1_partBetweenTwo : CeV 1 yX1_partBetweenTwo cX1_partBetweenTwo 4 (some .boolean) 1 := ⟨⟨h_tblm 733 (by decide +kernel) rfl, h_tblm 93 (by decide +kernel) rfl, by decide +kernel⟩, by decide, rfl, h_tblm 732 (by decide +kernel) rfl, h_tblm 52 (by decide +kernel) rfl⟩
theorem wce_X1_pourOneMore : CeV 1 yX1_pourOneMore cX1_pourOneMore 10 none 5 := ⟨⟨h_tblm 638 (by decide +kernel) rfl, h_tblm 93 (by decide +kernel) rfl, by decide +kernel⟩, by decide, rfl, h_tblm 637 (by decide +kernel) rfl, h_tblm 40 (by decide +kernel) rfl⟩
theorem wce_X1_sackBits : CeV 1 yX1_sackBits cX1_sackBits 4 (some .int) 1 := ⟨⟨h_tblm 738 (by decide +kernel) rfl, h_tblm 93 (by decide +kernel) rfl, by decide +kernel⟩, by decide, rfl, h_tblm 737 (by decide +kernel) rfl, h_tblm 53 (by decide +kernel) rfl⟩
theorem wce_X1_soonest : CeV 1 yX1_soonest cX1_soonest 5 (some .int) 2 := ⟨⟨h_tblm 611 (by decide +kernel) rfl, h_tblm 93 (by decide +kernel) rfl, by decide +kernel⟩, by decide, rfl, h_tblm 610 (by decide +kernel) rfl, h_tblm 36 (by decide +kernel) rfl⟩
theorem wce_X1_takeRest : CeV 1 yX1_takeRest cX1_takeRest 3 none 1 := ⟨⟨h_tblm 628 (by decide +kernel) rfl, h_tblm 93 (by decide +kernel) rfl, by decide +kernel⟩, by decide, rfl, h_tblm 627 (by decide +kernel) rfl, h_tblm 39 (by decide +kernel) rfl⟩
theorem wce_X1_takeWaiting : CeV 1 yX1_takeWaiting cX1_takeWaiting 3 none 1 := ⟨⟨h_tblm 615 (by decide +kernel) rfl, h_tblm 93 (by decide +kernel) rfl, by decide +kernel⟩, by decide, rfl, h_tblm 614 (by decide +kernel) rfl, h_tblm 37 (by decide +kernel) rfl⟩
theorem wce_X2_add : CeV 2 yX2_add cX2_add 5 none 4 := ⟨⟨h_tblm 314 (by decide +kernel) rfl, h_tblm 91 (by decide +kernel) rfl, by decide +kernel⟩, by decide, rfl, h_tblm 313 (by decide +kernel) rfl, h_tblm 1 (by decide +kernel) rfl⟩
theorem wce_X2_clear : CeV 2 yX2_clear cX2_clear 1 none 0 := ⟨⟨h_tblm 133 (by decide +kernel) rfl, h_tblm 91 (by decide +kernel) rfl, by decide +kernel⟩, by decide, rfl, h_tblm 132 (by decide +kernel) rfl, h_tblm 0 (by decide +kernel) rfl⟩
theorem wce_X2_copyFrom : CeV 2 yX2_copyFrom cX2_copyFrom 2 none 1 := ⟨⟨h_tblm 427 (by decide +kernel) rfl, h_tblm 91 (by decide +kernel) rfl, by decide +kernel⟩, by decide, rfl, h_tblm 426 (by decide +kernel) rfl, h_tblm 11 (by decide +kernel) rfl⟩
theorem wce_X2_fitsNow : CeV 2 yX2_fitsNow cX2_fitsNow 2 (some .boolean) 1 := ⟨⟨h_tblm 451 (by decide +kernel) rfl, h_tblm 91 (by decide +kernel) rfl, by decide +kernel⟩, by decide, rfl, h_tblm 450 (by decide +kernel) rfl, h_tblm 14 (by decide +kernel) rfl⟩
theorem wce_X2_has : CeV 2 yX2_has cX2_has 2 (some .boolean) 1 := ⟨⟨h_tblm 438 (by decide +kernel) rfl, h_tblm 91 (by decide +kernel) rfl, by decide +kernel⟩, by decide, rfl, h_tblm 437 (by decide +kernel) rfl, h_tblm 12 (by decide +kernel) rfl⟩
theorem wce_X2_hourAfter : CeV 2 yX2_hourAfter cX2_hourAfter 3 (some .int) 2 := ⟨⟨h_tblm 474 (by decide +kernel) rfl, h_tblm 91 (by decide +kernel) rfl, by decide +kernel⟩, by decide, rfl, h_tblm 473 (by decide +kernel) rfl, h_tblm 18 (by decide +kernel) rfl⟩
theorem wce_X2_howMany : CeV 2 yX2_howMany cX2_howMany 4 (some .int) 1 := ⟨⟨h_tblm 785 (by decide +kernel) rfl, h_tblm 91 (by decide +kernel) rfl, by decide +kernel⟩, by decide, rfl, h_tblm 784 (by decide +kernel) rfl, h_tblm 58 (by decide +kernel) rfl⟩
theorem wce_X2_init : CeI yX2_init cX2_init 1 0 := ⟨⟨h_tblm 128 (by decide +kernel) rfl, h_tblm 91 (by decide +kernel) rfl, by decide +kernel⟩, rfl, h_tblm 127 (by decide +kernel) rfl⟩
theorem wce_X2_isWaitedFor : CeV 2 yX2_isWaitedFor cX2_isWaitedFor 3 (some .boolean) 1 := ⟨⟨h_tblm 698 (by decide +kernel) rfl, h_tblm 91 (by decide +kernel) rfl, by decide +kernel⟩, by decide, rfl, h_tblm 697 (by decide +kernel) rfl, h_tblm 47 (by decide +kernel) rfl⟩
theorem wce_X2_kindOf : CeV 2 yX2_kindOf cX2_kindOf 2 (some .int) 1 := ⟨⟨h_tblm 455 (by decide +kernel) rfl, h_tblm 91 (by decide +kernel) rfl, by decide +kernel⟩, by decide, rfl, h_tblm 454 (by decide +kernel) rfl, h_tblm 15 (by decide +kernel) rfl⟩
theorem wce_X2_memoryNow : CeV 2 yX2_memoryNow cX2_memoryNow 1 (some .int) 0 := ⟨⟨h_tblm 598 (by decide +kernel) rfl, h_tblm 91 (by decide +kernel) rfl, by decide +kernel⟩, by decide, rfl, h_tblm 597 (by decide +kernel) rfl, h_tblm 34 (by decide +kernel) rfl⟩
theorem wce_X2_part : CeV 2 yX2_part cX2_part 3 none 2 := ⟨⟨h_tblm 486 (by decide +kernel) rfl, h_tblm 91 (by decide +kernel) rfl, by decide +kernel⟩, by decide, rfl, h_tblm 485 (by decide +kernel) rfl, h_tblm 19 (by decide +kernel) rfl⟩
theorem wce_X2_setPoured : CeV 2 yX2_setPoured cX2_setPoured 2 none 1 := ⟨⟨h_tblm 470 (by decide +kernel) rfl, h_tblm 91 (by decide +kernel) rfl, by decide +kernel⟩, by decide, rfl, h_tblm 469 (by decide +kernel) rfl, h_tblm 17 (by decide +kernel) rfl⟩
theorem wce_X2_waits : CeV 2 yX2_waits cX2_waits 2 (some .boolean) 1 := ⟨⟨h_tblm 446 (by decide +kernel) rfl, h_tblm 91 (by decide +kernel) rfl, by decide +kernel⟩, by decide, rfl, h_tblm 445 (by decide +kernel) rfl, h_tblm 13 (by decide +kernel) rfl⟩
theorem wce_X3_choose : CeV 3 yX3_choose cX3_choose 4 none 2 := ⟨⟨h_tblm 710 (by decide +kernel) rfl, h_tblm 94 (by decide +kernel) rfl, by decide +kernel⟩, by decide, rfl, h_tblm 709 (by decide +kernel) rfl, h_tblm 49 (by decide +kernel) rfl⟩
theorem wce_X3_find : CeV 3 yX3_find cX3_find 5 none 2 := ⟨⟨h_tblm 691 (by decide +kernel) rfl, h_tblm 94 (by decide +kernel) rfl, by decide +kernel⟩, by decide, rfl, h_tblm 690 (by decide +kernel) rfl, h_tblm 46 (by decide +kernel) rfl⟩
theorem wce_X3_init : CeI yX3_init cX3_init 1 0 := ⟨⟨h_tblm 271 (by decide +kernel) rfl, h_tblm 94 (by decide +kernel) rfl, by decide +kernel⟩, rfl, h_tblm 270 (by decide +kernel) rfl⟩
theorem wce_X3_isPair : CeS yX3_isPair cX3_isPair 4 (some .boolean) 4 := ⟨⟨h_tblm 694 (by decide +kernel) rfl, h_tblm 94 (by decide +kernel) rfl, by decide +kernel⟩, h_tblm 693 (by decide +kernel) rfl⟩
theorem wce_X3_partnerOf : CeV 3 yX3_partnerOf cX3_partnerOf 2 (some .int) 1 := ⟨⟨h_tblm 715 (by decide +kernel) rfl, h_tblm 94 (by decide +kernel) rfl, by decide +kernel⟩, by decide, rfl, h_tblm 714 (by decide +kernel) rfl, h_tblm 50 (by decide +kernel) rfl⟩
theorem wce_X4_init : CeI yX4_init cX4_init 1 0 := ⟨⟨h_tblm 113 (by decide +kernel) rfl, h_tblm 90 (by decide +kernel) rfl, by decide +kernel⟩, rfl, h_tblm 112 (by decide +kernel) rfl⟩
theorem wce_X4_isFigure : CeV 4 yX4_isFigure cX4_isFigure 3 (some .boolean) 2 := ⟨⟨h_tblm 393 (by decide +kernel) rfl, h_tblm 90 (by decide +kernel) rfl, by decide +kernel⟩, by decide, rfl, h_tblm 392 (by decide +kernel) rfl, h_tblm 6 (by decide +kernel) rfl⟩
theorem wce_X4_isSign : CeV 4 yX4_isSign cX4_isSign 4 (some .boolean) 3 := ⟨⟨h_tblm 400 (by decide +kernel) rfl, h_tblm 90 (by decide +kernel) rfl, by decide +kernel⟩, by decide, rfl, h_tblm 399 (by decide +kernel) rfl, h_tblm 7 (by decide +kernel) rfl⟩
theorem wce_X4_read : CeV 4 yX4_read cX4_read 6 (some .int) 3 := ⟨⟨h_tblm 376 (by decide +kernel) rfl, h_tblm 90 (by decide +kernel) rfl, by decide +kernel⟩, by decide, rfl, h_tblm 375 (by decide +kernel) rfl, h_tblm 2 (by decide +kernel) rfl⟩
theorem wce_X4_readItem : CeV 4 yX4_readItem cX4_readItem 5 (some .boolean) 3 := ⟨⟨h_tblm 381 (by decide +kernel) rfl, h_tblm 90 (by decide +kernel) rfl, by decide +kernel⟩, by decide, rfl, h_tblm 380 (by decide +kernel) rfl, h_tblm 3 (by decide +kernel) rfl⟩
theorem wce_X4_readNumber : CeV 4 yX4_readNumber cX4_readNumber 5 (some .int) 2 := ⟨⟨h_tblm 389 (by decide +kernel) rfl, h_tblm 90 (by decide +kernel) rfl, by decide +kernel⟩, by decide, rfl, h_tblm 388 (by decide +kernel) rfl, h_tblm 5 (by decide +kernel) rfl⟩
theorem wce_X4_readNumbers : CeV 4 yX4_readNumbers cX4_readNumbers 6 (some .boolean) 3 := ⟨⟨h_tblm 385 (by decide +kernel) rfl, h_tblm 90 (by decide +kernel) rfl, by decide +kernel⟩, by decide, rfl, h_tblm 384 (by decide +kernel) rfl, h_tblm 4 (by decide +kernel) rfl⟩
theorem wce_X4_takeLaw : CeV 4 yX4_takeLaw cX4_takeLaw 2 (some .boolean) 1 := ⟨⟨h_tblm 415 (by decide +kernel) rfl, h_tblm 90 (by decide +kernel) rfl, by decide +kernel⟩, by decide, rfl, h_tblm 414 (by decide +kernel) rfl, h_tblm 9 (by decide +kernel) rfl⟩
theorem wce_X4_takePrice : CeV 4 yX4_takePrice cX4_takePrice 2 (some .boolean) 1 := ⟨⟨h_tblm 419 (by decide +kernel) rfl, h_tblm 90 (by decide +kernel) rfl, by decide +kernel⟩, by decide, rfl, h_tblm 418 (by decide +kernel) rfl, h_tblm 10 (by decide +kernel) rfl⟩
theorem wce_X4_takeSack : CeV 4 yX4_takeSack cX4_takeSack 2 (some .boolean) 1 := ⟨⟨h_tblm 404 (by decide +kernel) rfl, h_tblm 90 (by decide +kernel) rfl, by decide +kernel⟩, by decide, rfl, h_tblm 403 (by decide +kernel) rfl, h_tblm 8 (by decide +kernel) rfl⟩
theorem wce_X5_bring : CeV 5 yX5_bring cX5_bring 4 none 1 := ⟨⟨h_tblm 758 (by decide +kernel) rfl, h_tblm 95 (by decide +kernel) rfl, by decide +kernel⟩, by decide, rfl, h_tblm 757 (by decide +kernel) rfl, h_tblm 55 (by decide +kernel) rfl⟩
theorem wce_X5_init : CeI yX5_init cX5_init 1 0 := ⟨⟨h_tblm 292 (by decide +kernel) rfl, h_tblm 95 (by decide +kernel) rfl, by decide +kernel⟩, rfl, h_tblm 291 (by decide +kernel) rfl⟩
theorem wce_X5_lowestPutBy : CeV 5 yX5_lowestPutBy cX5_lowestPutBy 2 (some .int) 0 := ⟨⟨h_tblm 769 (by decide +kernel) rfl, h_tblm 95 (by decide +kernel) rfl, by decide +kernel⟩, by decide, rfl, h_tblm 768 (by decide +kernel) rfl, h_tblm 57 (by decide +kernel) rfl⟩
theorem wce_X5_start : CeV 5 yX5_start cX5_start 2 none 1 := ⟨⟨h_tblm 746 (by decide +kernel) rfl, h_tblm 95 (by decide +kernel) rfl, by decide +kernel⟩, by decide, rfl, h_tblm 745 (by decide +kernel) rfl, h_tblm 54 (by decide +kernel) rfl⟩
theorem wce_X5_take : CeV 5 yX5_take cX5_take 2 none 1 := ⟨⟨h_tblm 764 (by decide +kernel) rfl, h_tblm 95 (by decide +kernel) rfl, by decide +kernel⟩, by decide, rfl, h_tblm 763 (by decide +kernel) rfl, h_tblm 56 (by decide +kernel) rfl⟩
theorem wce_X6_back : CeV 6 yX6_back cX6_back 1 (some .int) 0 := ⟨⟨h_tblm 777 (by decide +kernel) rfl, h_tblm 89 (by decide +kernel) rfl, by decide +kernel⟩, by decide, rfl, h_tblm 775 (by decide +kernel) rfl, h_tblm 776 (by decide +kernel) rfl⟩
theorem wce_X6_bread : CeV 6 yX6_bread cX6_bread 6 (some .int) 0 := ⟨⟨h_tblm 535 (by decide +kernel) rfl, h_tblm 89 (by decide +kernel) rfl, by decide +kernel⟩, by decide, rfl, h_tblm 534 (by decide +kernel) rfl, h_tblm 24 (by decide +kernel) rfl⟩
theorem wce_X6_cost : CeV 6 yX6_cost cX6_cost 1 (some .int) 0 := ⟨⟨h_tblm 499 (by decide +kernel) rfl, h_tblm 89 (by decide +kernel) rfl, by decide +kernel⟩, by decide, rfl, h_tblm 497 (by decide +kernel) rfl, h_tblm 498 (by decide +kernel) rfl⟩
theorem wce_X6_count : CeV 6 yX6_count cX6_count 2 (some .int) 1 := ⟨⟨h_tblm 781 (by decide +kernel) rfl, h_tblm 89 (by decide +kernel) rfl, by decide +kernel⟩, by decide, rfl, h_tblm 779 (by decide +kernel) rfl, h_tblm 780 (by decide +kernel) rfl⟩
theorem wce_X6_drawnKind : CeS yX6_drawnKind cX6_drawnKind 4 (some .int) 2 := ⟨⟨h_tblm 750 (by decide +kernel) rfl, h_tblm 89 (by decide +kernel) rfl, by decide +kernel⟩, h_tblm 749 (by decide +kernel) rfl⟩
theorem wce_X6_fault : CeV 6 yX6_fault cX6_fault 1 (some .int) 0 := ⟨⟨h_tblm 372 (by decide +kernel) rfl, h_tblm 89 (by decide +kernel) rfl, by decide +kernel⟩, by decide, rfl, h_tblm 370 (by decide +kernel) rfl, h_tblm 371 (by decide +kernel) rfl⟩
theorem wce_X6_firstBefore : CeS yX6_firstBefore cX6_firstBefore 1 (some .int) 1 := ⟨⟨h_tblm 580 (by decide +kernel) rfl, h_tblm 89 (by decide +kernel) rfl, by decide +kernel⟩, h_tblm 579 (by decide +kernel) rfl⟩
theorem wce_X6_fits : CeS yX6_fits cX6_fits 3 (some .boolean) 3 := ⟨⟨h_tblm 458 (by decide +kernel) rfl, h_tblm 89 (by decide +kernel) rfl, by decide +kernel⟩, h_tblm 457 (by decide +kernel) rfl⟩
theorem wce_X6_grows : CeV 6 yX6_grows cX6_grows 6 (some .int) 1 := ⟨⟨h_tblm 720 (by decide +kernel) rfl, h_tblm 89 (by decide +kernel) rfl, by decide +kernel⟩, by decide, rfl, h_tblm 718 (by decide +kernel) rfl, h_tblm 719 (by decide +kernel) rfl⟩
theorem wce_X6_halve : CeV 6 yX6_halve cX6_halve 3 (some .int) 2 := ⟨⟨h_tblm 482 (by decide +kernel) rfl, h_tblm 89 (by decide +kernel) rfl, by decide +kernel⟩, by decide, rfl, h_tblm 480 (by decide +kernel) rfl, h_tblm 481 (by decide +kernel) rfl⟩
theorem wce_X6_halvings : CeV 6 yX6_halvings cX6_halvings 1 (some .int) 0 := ⟨⟨h_tblm 656 (by decide +kernel) rfl, h_tblm 89 (by decide +kernel) rfl, by decide +kernel⟩, by decide, rfl, h_tblm 654 (by decide +kernel) rfl, h_tblm 655 (by decide +kernel) rfl⟩
theorem wce_X6_heldBefore : CeS yX6_heldBefore cX6_heldBefore 2 (some .int) 2 := ⟨⟨h_tblm 478 (by decide +kernel) rfl, h_tblm 89 (by decide +kernel) rfl, by decide +kernel⟩, h_tblm 477 (by decide +kernel) rfl⟩
theorem wce_X6_init : CeI yX6_init cX6_init 2 0 := ⟨⟨h_tblm 105 (by decide +kernel) rfl, h_tblm 89 (by decide +kernel) rfl, by decide +kernel⟩, rfl, h_tblm 104 (by decide +kernel) rfl⟩
theorem wce_X6_isInLine : CeV 6 yX6_isInLine cX6_isInLine 3 (some .boolean) 1 := ⟨⟨h_tblm 507 (by decide +kernel) rfl, h_tblm 89 (by decide +kernel) rfl, by decide +kernel⟩, by decide, rfl, h_tblm 506 (by decide +kernel) rfl, h_tblm 20 (by decide +kernel) rfl⟩
theorem wce_X6_isKind : CeS yX6_isKind cX6_isKind 1 (some .boolean) 1 := ⟨⟨h_tblm 407 (by decide +kernel) rfl, h_tblm 89 (by decide +kernel) rfl, by decide +kernel⟩, h_tblm 406 (by decide +kernel) rfl⟩
theorem wce_X6_isOwner : CeS yX6_isOwner cX6_isOwner 1 (some .boolean) 1 := ⟨⟨h_tblm 410 (by decide +kernel) rfl, h_tblm 89 (by decide +kernel) rfl, by decide +kernel⟩, h_tblm 409 (by decide +kernel) rfl⟩
theorem wce_X6_keep : CeV 6 yX6_keep cX6_keep 1 (some .int) 0 := ⟨⟨h_tblm 773 (by decide +kernel) rfl, h_tblm 89 (by decide +kernel) rfl, by decide +kernel⟩, by decide, rfl, h_tblm 771 (by decide +kernel) rfl, h_tblm 772 (by decide +kernel) rfl⟩
theorem wce_X6_lacks : CeV 6 yX6_lacks cX6_lacks 3 (some .int) 1 := ⟨⟨h_tblm 678 (by decide +kernel) rfl, h_tblm 89 (by decide +kernel) rfl, by decide +kernel⟩, by decide, rfl, h_tblm 676 (by decide +kernel) rfl, h_tblm 677 (by decide +kernel) rfl⟩
theorem wce_X6_lay : CeV 6 yX6_lay cX6_lay 1 (some .int) 0 := ⟨⟨h_tblm 423 (by decide +kernel) rfl, h_tblm 89 (by decide +kernel) rfl, by decide +kernel⟩, by decide, rfl, h_tblm 421 (by decide +kernel) rfl, h_tblm 422 (by decide +kernel) rfl⟩
theorem wce_X6_lineEnds : CeV 6 yX6_lineEnds cX6_lineEnds 4 (some .int) 0 := ⟨⟨h_tblm 530 (by decide +kernel) rfl, h_tblm 89 (by decide +kernel) rfl, by decide +kernel⟩, by decide, rfl, h_tblm 529 (by decide +kernel) rfl, h_tblm 23 (by decide +kernel) rfl⟩
theorem wce_X6_may : CeV 6 yX6_may cX6_may 2 (some .int) 1 := ⟨⟨h_tblm 442 (by decide +kernel) rfl, h_tblm 89 (by decide +kernel) rfl, by decide +kernel⟩, by decide, rfl, h_tblm 440 (by decide +kernel) rfl, h_tblm 441 (by decide +kernel) rfl⟩
theorem wce_X6_memoryOf : CeS yX6_memoryOf cX6_memoryOf 2 (some .int) 2 := ⟨⟨h_tblm 583 (by decide +kernel) rfl, h_tblm 89 (by decide +kernel) rfl, by decide +kernel⟩, h_tblm 582 (by decide +kernel) rfl⟩
theorem wce_X6_more : CeV 6 yX6_more cX6_more 3 (some .int) 1 := ⟨⟨h_tblm 672 (by decide +kernel) rfl, h_tblm 89 (by decide +kernel) rfl, by decide +kernel⟩, by decide, rfl, h_tblm 670 (by decide +kernel) rfl, h_tblm 671 (by decide +kernel) rfl⟩
theorem wce_X6_most : CeV 6 yX6_most cX6_most 3 (some .int) 1 := ⟨⟨h_tblm 603 (by decide +kernel) rfl, h_tblm 89 (by decide +kernel) rfl, by decide +kernel⟩, by decide, rfl, h_tblm 601 (by decide +kernel) rfl, h_tblm 602 (by decide +kernel) rfl⟩
theorem wce_X6_noQueue : CeV 6 yX6_noQueue cX6_noQueue 2 (some .int) 0 := ⟨⟨h_tblm 511 (by decide +kernel) rfl, h_tblm 89 (by decide +kernel) rfl, by decide +kernel⟩, by decide, rfl, h_tblm 509 (by decide +kernel) rfl, h_tblm 510 (by decide +kernel) rfl⟩
theorem wce_X6_orders : CeV 6 yX6_orders cX6_orders 1 (some .long) 0 := ⟨⟨h_tblm 539 (by decide +kernel) rfl, h_tblm 89 (by decide +kernel) rfl, by decide +kernel⟩, by decide, rfl, h_tblm 537 (by decide +kernel) rfl, h_tblm 538 (by decide +kernel) rfl⟩
theorem wce_X6_pour : CeV 6 yX6_pour cX6_pour 2 (some .int) 1 := ⟨⟨h_tblm 462 (by decide +kernel) rfl, h_tblm 89 (by decide +kernel) rfl, by decide +kernel⟩, by decide, rfl, h_tblm 460 (by decide +kernel) rfl, h_tblm 461 (by decide +kernel) rfl⟩
theorem wce_X6_queue : CeV 6 yX6_queue cX6_queue 2 (some .int) 1 := ⟨⟨h_tblm 503 (by decide +kernel) rfl, h_tblm 89 (by decide +kernel) rfl, by decide +kernel⟩, by decide, rfl, h_tblm 501 (by decide +kernel) rfl, h_tblm 502 (by decide +kernel) rfl⟩
theorem wce_X6_remember : CeV 6 yX6_remember cX6_remember 3 none 0 := ⟨⟨h_tblm 466 (by decide +kernel) rfl, h_tblm 89 (by decide +kernel) rfl, by decide +kernel⟩, by decide, rfl, h_tblm 465 (by decide +kernel) rfl, h_tblm 16 (by decide +kernel) rfl⟩
theorem wce_X6_roomFor : CeS yX6_roomFor cX6_roomFor 2 (some (.array .int)) 2 := ⟨⟨h_tblm 572 (by decide +kernel) rfl, h_tblm 89 (by decide +kernel) rfl, by decide +kernel⟩, h_tblm 571 (by decide +kernel) rfl⟩
theorem wce_X6_sack : CeV 6 yX6_sack cX6_sack 3 (some .int) 2 := ⟨⟨h_tblm 434 (by decide +kernel) rfl, h_tblm 89 (by decide +kernel) rfl, by decide +kernel⟩, by decide, rfl, h_tblm 432 (by decide +kernel) rfl, h_tblm 433 (by decide +kernel) rfl⟩
theorem wce_X6_sell : CeV 6 yX6_sell cX6_sell 2 (some .int) 1 := ⟨⟨h_tblm 491 (by decide +kernel) rfl, h_tblm 89 (by decide +kernel) rfl, by decide +kernel⟩, by decide, rfl, h_tblm 489 (by decide +kernel) rfl, h_tblm 490 (by decide +kernel) rfl⟩
theorem wce_X6_stopPlace : CeV 6 yX6_stopPlace cX6_stopPlace 5 (some .int) 0 := ⟨⟨h_tblm 523 (by decide +kernel) rfl, h_tblm 89 (by decide +kernel) rfl, by decide +kernel⟩, by decide, rfl, h_tblm 522 (by decide +kernel) rfl, h_tblm 22 (by decide +kernel) rfl⟩
theorem wce_X6_stops : CeV 6 yX6_stops cX6_stops 2 (some .int) 1 := ⟨⟨h_tblm 515 (by decide +kernel) rfl, h_tblm 89 (by decide +kernel) rfl, by decide +kernel⟩, by decide, rfl, h_tblm 513 (by decide +kernel) rfl, h_tblm 514 (by decide +kernel) rfl⟩
theorem wce_X6_stopsNowhere : CeV 6 yX6_stopsNowhere cX6_stopsNowhere 1 (some .boolean) 0 := ⟨⟨h_tblm 519 (by decide +kernel) rfl, h_tblm 89 (by decide +kernel) rfl, by decide +kernel⟩, by decide, rfl, h_tblm 518 (by decide +kernel) rfl, h_tblm 21 (by decide +kernel) rfl⟩
theorem wce_X6_together : CeV 6 yX6_together cX6_together 2 (some .int) 1 := ⟨⟨h_tblm 686 (by decide +kernel) rfl, h_tblm 89 (by decide +kernel) rfl, by decide +kernel⟩, by decide, rfl, h_tblm 684 (by decide +kernel) rfl, h_tblm 685 (by decide +kernel) rfl⟩
theorem wce_X6_twoMills : CeV 6 yX6_twoMills cX6_twoMills 2 (some .int) 1 := ⟨⟨h_tblm 729 (by decide +kernel) rfl, h_tblm 89 (by decide +kernel) rfl, by decide +kernel⟩, by decide, rfl, h_tblm 727 (by decide +kernel) rfl, h_tblm 728 (by decide +kernel) rfl⟩
theorem wce_X6_undo : CeV 6 yX6_undo cX6_undo 1 (some .int) 0 := ⟨⟨h_tblm 495 (by decide +kernel) rfl, h_tblm 89 (by decide +kernel) rfl, by decide +kernel⟩, by decide, rfl, h_tblm 493 (by decide +kernel) rfl, h_tblm 494 (by decide +kernel) rfl⟩
theorem wce_X6_wipe : CeV 6 yX6_wipe cX6_wipe 2 (some .int) 0 := ⟨⟨h_tblm 368 (by decide +kernel) rfl, h_tblm 89 (by decide +kernel) rfl, by decide +kernel⟩, by decide, rfl, h_tblm 366 (by decide +kernel) rfl, h_tblm 367 (by decide +kernel) rfl⟩
theorem wce_X6_write : CeV 6 yX6_write cX6_write 5 (some .int) 2 := ⟨⟨h_tblm 364 (by decide +kernel) rfl, h_tblm 89 (by decide +kernel) rfl, by decide +kernel⟩, by decide, rfl, h_tblm 362 (by decide +kernel) rfl, h_tblm 363 (by decide +kernel) rfl⟩
theorem wce_X6_year : CeV 6 yX6_year cX6_year 5 (some .int) 3 := ⟨⟨h_tblm 742 (by decide +kernel) rfl, h_tblm 89 (by decide +kernel) rfl, by decide +kernel⟩, by decide, rfl, h_tblm 740 (by decide +kernel) rfl, h_tblm 741 (by decide +kernel) rfl⟩
theorem wce_X7_back : CeV 7 yX7_back cX7_back 1 (some .int) 0 := ⟨⟨h_tblm 1102 (by decide +kernel) rfl, h_tblm 96 (by decide +kernel) rfl, by decide +kernel⟩, by decide, rfl, h_tblm 1100 (by decide +kernel) rfl, h_tblm 1101 (by decide +kernel) rfl⟩
theorem wce_X7_begins : CeV 7 yX7_begins cX7_begins 2 none 0 := ⟨⟨h_tblm 796 (by decide +kernel) rfl, h_tblm 96 (by decide +kernel) rfl, by decide +kernel⟩, by decide, rfl, h_tblm 795 (by decide +kernel) rfl, h_tblm 59 (by decide +kernel) rfl⟩
theorem wce_X7_bits : CeS yX7_bits cX7_bits 3 (some .int) 1 := ⟨⟨h_tblm 1028 (by decide +kernel) rfl, h_tblm 96 (by decide +kernel) rfl, by decide +kernel⟩, h_tblm 1027 (by decide +kernel) rfl⟩
theorem wce_X7_bread : CeV 7 yX7_bread cX7_bread 6 (some .int) 0 := ⟨⟨h_tblm 988 (by decide +kernel) rfl, h_tblm 96 (by decide +kernel) rfl, by decide +kernel⟩, by decide, rfl, h_tblm 987 (by decide +kernel) rfl, h_tblm 72 (by decide +kernel) rfl⟩
theorem wce_X7_copies : CeV 7 yX7_copies cX7_copies 4 none 2 := ⟨⟨h_tblm 952 (by decide +kernel) rfl, h_tblm 96 (by decide +kernel) rfl, by decide +kernel⟩, by decide, rfl, h_tblm 951 (by decide +kernel) rfl, h_tblm 70 (by decide +kernel) rfl⟩
theorem wce_X7_cost : CeV 7 yX7_cost cX7_cost 1 (some .int) 0 := ⟨⟨h_tblm 972 (by decide +kernel) rfl, h_tblm 96 (by decide +kernel) rfl, by decide +kernel⟩, by decide, rfl, h_tblm 970 (by decide +kernel) rfl, h_tblm 971 (by decide +kernel) rfl⟩
theorem wce_X7_count : CeV 7 yX7_count cX7_count 2 (some .int) 1 := ⟨⟨h_tblm 1106 (by decide +kernel) rfl, h_tblm 96 (by decide +kernel) rfl, by decide +kernel⟩, by decide, rfl, h_tblm 1104 (by decide +kernel) rfl, h_tblm 1105 (by decide +kernel) rfl⟩
theorem wce_X7_counted : CeV 7 yX7_counted cX7_counted 4 none 1 := ⟨⟨h_tblm 1004 (by decide +kernel) rfl, h_tblm 96 (by decide +kernel) rfl, by decide +kernel⟩, by decide, rfl, h_tblm 1003 (by decide +kernel) rfl, h_tblm 75 (by decide +kernel) rfl⟩
theorem wce_X7_counts : CeV 7 yX7_counts cX7_counts 2 none 0 := ⟨⟨h_tblm 996 (by decide +kernel) rfl, h_tblm 96 (by decide +kernel) rfl, by decide +kernel⟩, by decide, rfl, h_tblm 995 (by decide +kernel) rfl, h_tblm 73 (by decide +kernel) rfl⟩
theorem wce_X7_earliest : CeV 7 yX7_earliest cX7_earliest 11 none 3 := ⟨⟨h_tblm 1024 (by decide +kernel) rfl, h_tblm 96 (by decide +kernel) rfl, by decide +kernel⟩, by decide, rfl, h_tblm 1023 (by decide +kernel) rfl, h_tblm 79 (by decide +kernel) rfl⟩
theorem wce_X7_ends : CeV 7 yX7_ends cX7_ends 3 (some .int) 2 := ⟨⟨h_tblm 956 (by decide +kernel) rfl, h_tblm 96 (by decide +kernel) rfl, by decide +kernel⟩, by decide, rfl, h_tblm 955 (by decide +kernel) rfl, h_tblm 71 (by decide +kernel) rfl⟩
theorem wce_X7_fault : CeV 7 yX7_fault cX7_fault 2 (some .int) 0 := ⟨⟨h_tblm 890 (by decide +kernel) rfl, h_tblm 96 (by decide +kernel) rfl, by decide +kernel⟩, by decide, rfl, h_tblm 888 (by decide +kernel) rfl, h_tblm 889 (by decide +kernel) rfl⟩
theorem wce_X7_firstMost : CeV 7 yX7_firstMost cX7_firstMost 10 none 0 := ⟨⟨h_tblm 1016 (by decide +kernel) rfl, h_tblm 96 (by decide +kernel) rfl, by decide +kernel⟩, by decide, rfl, h_tblm 1015 (by decide +kernel) rfl, h_tblm 77 (by decide +kernel) rfl⟩
theorem wce_X7_grows : CeV 7 yX7_grows cX7_grows 6 (some .int) 1 := ⟨⟨h_tblm 1072 (by decide +kernel) rfl, h_tblm 96 (by decide +kernel) rfl, by decide +kernel⟩, by decide, rfl, h_tblm 1070 (by decide +kernel) rfl, h_tblm 1071 (by decide +kernel) rfl⟩
theorem wce_X7_halve : CeV 7 yX7_halve cX7_halve 5 (some .int) 2 := ⟨⟨h_tblm 960 (by decide +kernel) rfl, h_tblm 96 (by decide +kernel) rfl, by decide +kernel⟩, by decide, rfl, h_tblm 958 (by decide +kernel) rfl, h_tblm 959 (by decide +kernel) rfl⟩
theorem wce_X7_halvings : CeV 7 yX7_halvings cX7_halvings 7 (some .int) 0 := ⟨⟨h_tblm 1036 (by decide +kernel) rfl, h_tblm 96 (by decide +kernel) rfl, by decide +kernel⟩, by decide, rfl, h_tblm 1034 (by decide +kernel) rfl, h_tblm 1035 (by decide +kernel) rfl⟩
theorem wce_X7_hasMany : CeV 7 yX7_hasMany cX7_hasMany 4 (some .int) 1 := ⟨⟨h_tblm 1064 (by decide +kernel) rfl, h_tblm 96 (by decide +kernel) rfl, by decide +kernel⟩, by decide, rfl, h_tblm 1063 (by decide +kernel) rfl, h_tblm 83 (by decide +kernel) rfl⟩
theorem wce_X7_in : CeS yX7_in cX7_in 6 (some .boolean) 3 := ⟨⟨h_tblm 882 (by decide +kernel) rfl, h_tblm 96 (by decide +kernel) rfl, by decide +kernel⟩, h_tblm 881 (by decide +kernel) rfl⟩
theorem wce_X7_init : CeI yX7_init cX7_init 1 0 := ⟨⟨h_tblm 790 (by decide +kernel) rfl, h_tblm 96 (by decide +kernel) rfl, by decide +kernel⟩, rfl, h_tblm 789 (by decide +kernel) rfl⟩
theorem wce_X7_isGood : CeV 7 yX7_isGood cX7_isGood 4 (some .boolean) 1 := ⟨⟨h_tblm 905 (by decide +kernel) rfl, h_tblm 96 (by decide +kernel) rfl, by decide +kernel⟩, by decide, rfl, h_tblm 904 (by decide +kernel) rfl, h_tblm 63 (by decide +kernel) rfl⟩
theorem wce_X7_isItem : CeV 7 yX7_isItem cX7_isItem 5 (some .boolean) 0 := ⟨⟨h_tblm 894 (by decide +kernel) rfl, h_tblm 96 (by decide +kernel) rfl, by decide +kernel⟩, by decide, rfl, h_tblm 893 (by decide +kernel) rfl, h_tblm 61 (by decide +kernel) rfl⟩
theorem wce_X7_isKind : CeS yX7_isKind cX7_isKind 1 (some .boolean) 1 := ⟨⟨h_tblm 1047 (by decide +kernel) rfl, h_tblm 96 (by decide +kernel) rfl, by decide +kernel⟩, h_tblm 1046 (by decide +kernel) rfl⟩
theorem wce_X7_isMixed : CeV 7 yX7_isMixed cX7_isMixed 4 (some .boolean) 3 := ⟨⟨h_tblm 940 (by decide +kernel) rfl, h_tblm 96 (by decide +kernel) rfl, by decide +kernel⟩, by decide, rfl, h_tblm 939 (by decide +kernel) rfl, h_tblm 68 (by decide +kernel) rfl⟩
theorem wce_X7_isPair : CeV 7 yX7_isPair cX7_isPair 4 (some .boolean) 2 := ⟨⟨h_tblm 1060 (by decide +kernel) rfl, h_tblm 96 (by decide +kernel) rfl, by decide +kernel⟩, by decide, rfl, h_tblm 1059 (by decide +kernel) rfl, h_tblm 82 (by decide +kernel) rfl⟩
theorem wce_X7_isSack : CeV 7 yX7_isSack cX7_isSack 2 (some .boolean) 1 := ⟨⟨h_tblm 920 (by decide +kernel) rfl, h_tblm 96 (by decide +kernel) rfl, by decide +kernel⟩, by decide, rfl, h_tblm 919 (by decide +kernel) rfl, h_tblm 64 (by decide +kernel) rfl⟩
theorem wce_X7_isWaiting : CeV 7 yX7_isWaiting cX7_isWaiting 2 (some .boolean) 1 := ⟨⟨h_tblm 932 (by decide +kernel) rfl, h_tblm 96 (by decide +kernel) rfl, by decide +kernel⟩, by decide, rfl, h_tblm 931 (by decide +kernel) rfl, h_tblm 66 (by decide +kernel) rfl⟩
theorem wce_X7_keep : CeV 7 yX7_keep cX7_keep 1 (some .int) 0 := ⟨⟨h_tblm 1098 (by decide +kernel) rfl, h_tblm 96 (by decide +kernel) rfl, by decide +kernel⟩, by decide, rfl, h_tblm 1096 (by decide +kernel) rfl, h_tblm 1097 (by decide +kernel) rfl⟩
theorem wce_X7_known : CeV 7 yX7_known cX7_known 2 none 0 := ⟨⟨h_tblm 948 (by decide +kernel) rfl, h_tblm 96 (by decide +kernel) rfl, by decide +kernel⟩, by decide, rfl, h_tblm 947 (by decide +kernel) rfl, h_tblm 69 (by decide +kernel) rfl⟩
theorem wce_X7_lacks : CeV 7 yX7_lacks cX7_lacks 3 (some .int) 1 := ⟨⟨h_tblm 1051 (by decide +kernel) rfl, h_tblm 96 (by decide +kernel) rfl, by decide +kernel⟩, by decide, rfl, h_tblm 1049 (by decide +kernel) rfl, h_tblm 1050 (by decide +kernel) rfl⟩
theorem wce_X7_lay : CeV 7 yX7_lay cX7_lay 1 (some .int) 0 := ⟨⟨h_tblm 911 (by decide +kernel) rfl, h_tblm 96 (by decide +kernel) rfl, by decide +kernel⟩, by decide, rfl, h_tblm 909 (by decide +kernel) rfl, h_tblm 910 (by decide +kernel) rfl⟩
theorem wce_X7_may : CeV 7 yX7_may cX7_may 2 (some .int) 1 := ⟨⟨h_tblm 928 (by decide +kernel) rfl, h_tblm 96 (by decide +kernel) rfl, by decide +kernel⟩, by decide, rfl, h_tblm 926 (by decide +kernel) rfl, h_tblm 927 (by decide +kernel) rfl⟩
theorem wce_X7_mayNow : CeV 7 yX7_mayNow cX7_mayNow 2 (some .boolean) 1 := ⟨⟨h_tblm 936 (by decide +kernel) rfl, h_tblm 96 (by decide +kernel) rfl, by decide +kernel⟩, by decide, rfl, h_tblm 935 (by decide +kernel) rfl, h_tblm 67 (by decide +kernel) rfl⟩
theorem wce_X7_more : CeV 7 yX7_more cX7_more 3 (some .int) 1 := ⟨⟨h_tblm 1044 (by decide +kernel) rfl, h_tblm 96 (by decide +kernel) rfl, by decide +kernel⟩, by decide, rfl, h_tblm 1042 (by decide +kernel) rfl, h_tblm 1043 (by decide +kernel) rfl⟩
theorem wce_X7_most : CeV 7 yX7_most cX7_most 5 (some .int) 1 := ⟨⟨h_tblm 1012 (by decide +kernel) rfl, h_tblm 96 (by decide +kernel) rfl, by decide +kernel⟩, by decide, rfl, h_tblm 1010 (by decide +kernel) rfl, h_tblm 1011 (by decide +kernel) rfl⟩
theorem wce_X7_mostOf : CeV 7 yX7_mostOf cX7_mostOf 9 (some .int) 0 := ⟨⟨h_tblm 1020 (by decide +kernel) rfl, h_tblm 96 (by decide +kernel) rfl, by decide +kernel⟩, by decide, rfl, h_tblm 1019 (by decide +kernel) rfl, h_tblm 78 (by decide +kernel) rfl⟩
theorem wce_X7_noQueue : CeV 7 yX7_noQueue cX7_noQueue 2 (some .int) 0 := ⟨⟨h_tblm 980 (by decide +kernel) rfl, h_tblm 96 (by decide +kernel) rfl, by decide +kernel⟩, by decide, rfl, h_tblm 978 (by decide +kernel) rfl, h_tblm 979 (by decide +kernel) rfl⟩
theorem wce_X7_number : CeV 7 yX7_number cX7_number 3 (some .int) 0 := ⟨⟨h_tblm 898 (by decide +kernel) rfl, h_tblm 96 (by decide +kernel) rfl, by decide +kernel⟩, by decide, rfl, h_tblm 897 (by decide +kernel) rfl, h_tblm 62 (by decide +kernel) rfl⟩
theorem wce_X7_of : CeV 7 yX7_of cX7_of 3 (some .int) 2 := ⟨⟨h_tblm 924 (by decide +kernel) rfl, h_tblm 96 (by decide +kernel) rfl, by decide +kernel⟩, by decide, rfl, h_tblm 923 (by decide +kernel) rfl, h_tblm 65 (by decide +kernel) rfl⟩
theorem wce_X7_orders : CeV 7 yX7_orders cX7_orders 7 (some .long) 0 := ⟨⟨h_tblm 992 (by decide +kernel) rfl, h_tblm 96 (by decide +kernel) rfl, by decide +kernel⟩, by decide, rfl, h_tblm 990 (by decide +kernel) rfl, h_tblm 991 (by decide +kernel) rfl⟩
theorem wce_X7_paired : CeV 7 yX7_paired cX7_paired 6 (some .int) 2 := ⟨⟨h_tblm 1068 (by decide +kernel) rfl, h_tblm 96 (by decide +kernel) rfl, by decide +kernel⟩, by decide, rfl, h_tblm 1067 (by decide +kernel) rfl, h_tblm 84 (by decide +kernel) rfl⟩
theorem wce_X7_pour : CeV 7 yX7_pour cX7_pour 2 (some .int) 1 := ⟨⟨h_tblm 944 (by decide +kernel) rfl, h_tblm 96 (by decide +kernel) rfl, by decide +kernel⟩, by decide, rfl, h_tblm 942 (by decide +kernel) rfl, h_tblm 943 (by decide +kernel) rfl⟩
theorem wce_X7_pours : CeV 7 yX7_pours cX7_pours 2 none 1 := ⟨⟨h_tblm 1090 (by decide +kernel) rfl, h_tblm 96 (by decide +kernel) rfl, by decide +kernel⟩, by decide, rfl, h_tblm 1089 (by decide +kernel) rfl, h_tblm 85 (by decide +kernel) rfl⟩
theorem wce_X7_queue : CeV 7 yX7_queue cX7_queue 4 (some .int) 1 := ⟨⟨h_tblm 976 (by decide +kernel) rfl, h_tblm 96 (by decide +kernel) rfl, by decide +kernel⟩, by decide, rfl, h_tblm 974 (by decide +kernel) rfl, h_tblm 975 (by decide +kernel) rfl⟩
theorem wce_X7_sack : CeV 7 yX7_sack cX7_sack 3 (some .int) 2 := ⟨⟨h_tblm 916 (by decide +kernel) rfl, h_tblm 96 (by decide +kernel) rfl, by decide +kernel⟩, by decide, rfl, h_tblm 914 (by decide +kernel) rfl, h_tblm 915 (by decide +kernel) rfl⟩
theorem wce_X7_sell : CeV 7 yX7_sell cX7_sell 2 (some .int) 1 := ⟨⟨h_tblm 964 (by decide +kernel) rfl, h_tblm 96 (by decide +kernel) rfl, by decide +kernel⟩, by decide, rfl, h_tblm 962 (by decide +kernel) rfl, h_tblm 963 (by decide +kernel) rfl⟩
theorem wce_X7_size : CeV 7 yX7_size cX7_size 3 (some .int) 0 := ⟨⟨h_tblm 1000 (by decide +kernel) rfl, h_tblm 96 (by decide +kernel) rfl, by decide +kernel⟩, by decide, rfl, h_tblm 999 (by decide +kernel) rfl, h_tblm 74 (by decide +kernel) rfl⟩
theorem wce_X7_soonestOf : CeV 7 yX7_soonestOf cX7_soonestOf 5 (some .int) 1 := ⟨⟨h_tblm 1032 (by decide +kernel) rfl, h_tblm 96 (by decide +kernel) rfl, by decide +kernel⟩, by decide, rfl, h_tblm 1031 (by decide +kernel) rfl, h_tblm 80 (by decide +kernel) rfl⟩
theorem wce_X7_splits : CeV 7 yX7_splits cX7_splits 4 (some .int) 1 := ⟨⟨h_tblm 1040 (by decide +kernel) rfl, h_tblm 96 (by decide +kernel) rfl, by decide +kernel⟩, by decide, rfl, h_tblm 1039 (by decide +kernel) rfl, h_tblm 81 (by decide +kernel) rfl⟩
theorem wce_X7_step : CeV 7 yX7_step cX7_step 4 (some .int) 1 := ⟨⟨h_tblm 1008 (by decide +kernel) rfl, h_tblm 96 (by decide +kernel) rfl, by decide +kernel⟩, by decide, rfl, h_tblm 1007 (by decide +kernel) rfl, h_tblm 76 (by decide +kernel) rfl⟩
theorem wce_X7_stops : CeV 7 yX7_stops cX7_stops 7 (some .int) 1 := ⟨⟨h_tblm 984 (by decide +kernel) rfl, h_tblm 96 (by decide +kernel) rfl, by decide +kernel⟩, by decide, rfl, h_tblm 982 (by decide +kernel) rfl, h_tblm 983 (by decide +kernel) rfl⟩
theorem wce_X7_such : CeV 7 yX7_such cX7_such 4 (some .int) 1 := ⟨⟨h_tblm 1110 (by decide +kernel) rfl, h_tblm 96 (by decide +kernel) rfl, by decide +kernel⟩, by decide, rfl, h_tblm 1109 (by decide +kernel) rfl, h_tblm 87 (by decide +kernel) rfl⟩
theorem wce_X7_takes : CeV 7 yX7_takes cX7_takes 3 none 0 := ⟨⟨h_tblm 800 (by decide +kernel) rfl, h_tblm 96 (by decide +kernel) rfl, by decide +kernel⟩, by decide, rfl, h_tblm 799 (by decide +kernel) rfl, h_tblm 60 (by decide +kernel) rfl⟩
theorem wce_X7_together : CeV 7 yX7_together cX7_together 7 (some .int) 1 := ⟨⟨h_tblm 1055 (by decide +kernel) rfl, h_tblm 96 (by decide +kernel) rfl, by decide +kernel⟩, by decide, rfl, h_tblm 1053 (by decide +kernel) rfl, h_tblm 1054 (by decide +kernel) rfl⟩
theorem wce_X7_twoMills : CeV 7 yX7_twoMills cX7_twoMills 7 (some .int) 1 := ⟨⟨h_tblm 1076 (by decide +kernel) rfl, h_tblm 96 (by decide +kernel) rfl, by decide +kernel⟩, by decide, rfl, h_tblm 1074 (by decide +kernel) rfl, h_tblm 1075 (by decide +kernel) rfl⟩
theorem wce_X7_undo : CeV 7 yX7_undo cX7_undo 1 (some .int) 0 := ⟨⟨h_tblm 968 (by decide +kernel) rfl, h_tblm 96 (by decide +kernel) rfl, by decide +kernel⟩, by decide, rfl, h_tblm 966 (by decide +kernel) rfl, h_tblm 967 (by decide +kernel) rfl⟩
theorem wce_X7_waits : CeV 7 yX7_waits cX7_waits 2 (some .int) 0 := ⟨⟨h_tblm 1094 (by decide +kernel) rfl, h_tblm 96 (by decide +kernel) rfl, by decide +kernel⟩, by decide, rfl, h_tblm 1093 (by decide +kernel) rfl, h_tblm 86 (by decide +kernel) rfl⟩
theorem wce_X7_wipe : CeV 7 yX7_wipe cX7_wipe 2 (some .int) 0 := ⟨⟨h_tblm 886 (by decide +kernel) rfl, h_tblm 96 (by decide +kernel) rfl, by decide +kernel⟩, by decide, rfl, h_tblm 884 (by decide +kernel) rfl, h_tblm 885 (by decide +kernel) rfl⟩
theorem wce_X7_write : CeV 7 yX7_write cX7_write 5 (some .int) 2 := ⟨⟨h_tblm 878 (by decide +kernel) rfl, h_tblm 96 (by decide +kernel) rfl, by decide +kernel⟩, by decide, rfl, h_tblm 876 (by decide +kernel) rfl, h_tblm 877 (by decide +kernel) rfl⟩
theorem wce_X7_year : CeV 7 yX7_year cX7_year 10 (some .int) 3 := ⟨⟨h_tblm 1080 (by decide +kernel) rfl, h_tblm 96 (by decide +kernel) rfl, by decide +kernel⟩, by decide, rfl, h_tblm 1078 (by decide +kernel) rfl, h_tblm 1079 (by decide +kernel) rfl⟩
theorem wcll_L_7 : Cond.classLink RL 7 RX6 ∈ h_tbl := h_tblm 101 (by decide +kernel) rfl
theorem wcll_L_10 : Cond.classLink RL 10 RX7 ∈ h_tbl := h_tblm 786 (by decide +kernel) rfl
theorem wcll_X6_13 : Cond.classLink RX6 13 RX4 ∈ h_tbl := h_tblm 109 (by decide +kernel) rfl
theorem wcll_X6_20 : Cond.classLink RX6 20 RX2 ∈ h_tbl := h_tblm 124 (by decide +kernel) rfl
theorem wcll_X6_41 : Cond.classLink RX6 41 RX0 ∈ h_tbl := h_tblm 197 (by decide +kernel) rfl
theorem wcll_X6_48 : Cond.classLink RX6 48 RX1 ∈ h_tbl := h_tblm 219 (by decide +kernel) rfl
theorem wcll_X6_55 : Cond.classLink RX6 55 RX3 ∈ h_tbl := h_tblm 267 (by decide +kernel) rfl
theorem wcll_X6_62 : Cond.classLink RX6 62 RX5 ∈ h_tbl := h_tblm 288 (by decide +kernel) rfl
theorem wins_X0 : Cond.instantiable RX0 5 ∈ h_tbl := h_tblm 198 (by decide +kernel) rfl
theorem wini_X0 : Cond.initialized RX0 ∈ h_tbl := h_tblm 92 (by decide +kernel) rfl
theorem wdef_X0 : ∀ (z j : Nat), j < (h_cl 0).2.2 → defaultValue (h_ty 0 j) = vp_V (([.null, .null, .null, .int 0, .null] : List Value).map (h_sh z)) j := by
  intro z j hj
  have hj : j < 5 := hj
  rcases (show j = 0 ∨ j = 1 ∨ j = 2 ∨ j = 3 ∨ j = 4 from by omega) with rfl | rfl | rfl | rfl | rfl <;> rfl
theorem wins_X1 : Cond.instantiable RX1 13 ∈ h_tbl := h_tblm 220 (by decide +kernel) rfl
theorem wini_X1 : Cond.initialized RX1 ∈ h_tbl := h_tblm 93 (by decide +kernel) rfl
theorem wdef_X1 : ∀ (z j : Nat), j < (h_cl 1).2.2 → defaultValue (h_ty 1 j) = vp_V (([.null, .null, .null, .null, .int 0, .int 0, .null, .int 0, .null, .null, .null, .int 0, .int 0] : List Value).map (h_sh z)) j := by
  intro z j hj
  have hj : j < 13 := hj
  rcases (show j = 0 ∨ j = 1 ∨ j = 2 ∨ j = 3 ∨ j = 4 ∨ j = 5 ∨ j = 6 ∨ j = 7 ∨ j = 8 ∨ j = 9 ∨ j = 10 ∨ j = 11 ∨ j = 12 from by omega) with rfl | rfl | rfl | rfl | rfl | rfl | rfl | rfl | rfl | rfl | rfl | rfl | rfl <;> rfl
theorem wins_X2 : Cond.instantiable RX2 12 ∈ h_tbl := h_tblm 125 (by decide +kernel) rfl
theorem wini_X2 : Cond.initialized RX2 ∈ h_tbl := h_tblm 91 (by decide +kernel) rfl
theorem wdef_X2 : ∀ (z j : Nat), j < (h_cl 2).2.2 → defaultValue (h_ty 2 j) = vp_V (([.int 0, .int 0, .int 0, .null, .null, .null, .null, .null, .int 0, .int 0, .int 0, .int 0] : List Value).map (h_sh z)) j := by
  intro z j hj
  have hj : j < 12 := hj
  rcases (show j = 0 ∨ j = 1 ∨ j = 2 ∨ j = 3 ∨ j = 4 ∨ j = 5 ∨ j = 6 ∨ j = 7 ∨ j = 8 ∨ j = 9 ∨ j = 10 ∨ j = 11 from by omega) with rfl | rfl | rfl | rfl | rfl | rfl | rfl | rfl | rfl | rfl | rfl | rfl <;> rfl
theorem wins_X3 : Cond.instantiable RX3 4 ∈ h_tbl := h_tblm 268 (by decide +kernel) rfl
theorem wini_X3 : Cond.initialized RX3 ∈ h_tbl := h_tblm 94 (by decide +kernel) rfl
theorem wdef_X3 : ∀ (z j : Nat), j < (h_cl 3).2.2 → defaultValue (h_ty 3 j) = vp_V (([.null, .null, .null, .int 0] : List Value).map (h_sh z)) j := by
  intro z j hj
  have hj : j < 4 := hj
  rcases (show j = 0 ∨ j = 1 ∨ j = 2 ∨ j = 3 from by omega) with rfl | rfl | rfl | rfl <;> rfl
theorem wins_X4 : Cond.instantiable RX4 2 ∈ h_tbl := h_tblm 110 (by decide +kernel) rfl
theorem wini_X4 : Cond.initialized RX4 ∈ h_tbl := h_tblm 90 (by decide +kernel) rfl
theorem wdef_X4 : ∀ (z j : Nat), j < (h_cl 4).2.2 → defaultValue (h_ty 4 j) = vp_V (([.null, .int 0] : List Value).map (h_sh z)) j := by
  intro z j hj
  have hj : j < 2 := hj
  rcases (show j = 0 ∨ j = 1 from by omega) with rfl | rfl <;> rfl
theorem wins_X5 : Cond.instantiable RX5 5 ∈ h_tbl := h_tblm 289 (by decide +kernel) rfl
theorem wini_X5 : Cond.initialized RX5 ∈ h_tbl := h_tblm 95 (by decide +kernel) rfl
theorem wdef_X5 : ∀ (z j : Nat), j < (h_cl 5).2.2 → defaultValue (h_ty 5 j) = vp_V (([.int 0, .null, .int 0, .int 0, .int 0] : List Value).map (h_sh z)) j := by
  intro z j hj
  have hj : j < 5 := hj
  rcases (show j = 0 ∨ j = 1 ∨ j = 2 ∨ j = 3 ∨ j = 4 from by omega) with rfl | rfl | rfl | rfl | rfl <;> rfl
theorem wins_X6 : Cond.instantiable RX6 15 ∈ h_tbl := h_tblm 102 (by decide +kernel) rfl
theorem wini_X6 : Cond.initialized RX6 ∈ h_tbl := h_tblm 89 (by decide +kernel) rfl
theorem wdef_X6 : ∀ (z j : Nat), j < (h_cl 6).2.2 → defaultValue (h_ty 6 j) = vp_V (([.null, .int 0, .null, .null, .null, .null, .int 0, .null, .int 0, .null, .int 0, .null, .null, .null, .null] : List Value).map (h_sh z)) j := by
  intro z j hj
  have hj : j < 15 := hj
  rcases (show j = 0 ∨ j = 1 ∨ j = 2 ∨ j = 3 ∨ j = 4 ∨ j = 5 ∨ j = 6 ∨ j = 7 ∨ j = 8 ∨ j = 9 ∨ j = 10 ∨ j = 11 ∨ j = 12 ∨ j = 13 ∨ j = 14 from by omega) with rfl | rfl | rfl | rfl | rfl | rfl | rfl | rfl | rfl | rfl | rfl | rfl | rfl | rfl | rfl <;> rfl
theorem wins_X7 : Cond.instantiable RX7 24 ∈ h_tbl := h_tblm 787 (by decide +kernel) rfl
theorem wini_X7 : Cond.initialized RX7 ∈ h_tbl := h_tblm 96 (by decide +kernel) rfl
theorem wdef_X7 : ∀ (z j : Nat), j < (h_cl 7).2.2 → defaultValue (h_ty 7 j) = vp_V (([.int 0, .null, .int 0, .null, .null, .null, .null, .int 0, .int 0, .int 0, .null, .null, .null, .null, .null, .int 0, .null, .null, .null, .null, .null, .null, .int 0, .int 0] : List Value).map (h_sh z)) j := by
  intro z j hj
  have hj : j < 24 := hj
  rcases (show j = 0 ∨ j = 1 ∨ j = 2 ∨ j = 3 ∨ j = 4 ∨ j = 5 ∨ j = 6 ∨ j = 7 ∨ j = 8 ∨ j = 9 ∨ j = 10 ∨ j = 11 ∨ j = 12 ∨ j = 13 ∨ j = 14 ∨ j = 15 ∨ j = 16 ∨ j = 17 ∨ j = 18 ∨ j = 19 ∨ j = 20 ∨ j = 21 ∨ j = 22 ∨ j = 23 from by omega) with rfl | rfl | rfl | rfl | rfl | rfl | rfl | rfl | rfl | rfl | rfl | rfl | rfl | rfl | rfl | rfl | rfl | rfl | rfl | rfl | rfl | rfl | rfl | rfl <;> rfl
theorem wco_J6_265 : Cond.constant RJ6 265 (1431655765 : Int32) ∈ h_tbl := h_tblm 642 (by decide +kernel) rfl
theorem wco_J6_266 : Cond.constant RJ6 266 (858993459 : Int32) ∈ h_tbl := h_tblm 643 (by decide +kernel) rfl
theorem wco_J6_267 : Cond.constant RJ6 267 (252645135 : Int32) ∈ h_tbl := h_tblm 644 (by decide +kernel) rfl
theorem wco_X1_64 : Cond.constant RX1 64 (1000000 : Int32) ∈ h_tbl := h_tblm 623 (by decide +kernel) rfl
theorem wco_X7_29 : Cond.constant RX7 29 (36864 : Int32) ∈ h_tbl := h_tblm 792 (by decide +kernel) rfl
theorem wco_X7_158 : Cond.constant RX7 158 (1000000 : Int32) ∈ h_tbl := h_tblm 1025 (by decide +kernel) rfl
theorem wcl_L_13 : Cond.constantLong RL 13 (4294967295 : Int64) ∈ h_tbl := h_tblm 1111 (by decide +kernel) rfl
theorem wcl_X6_254 : Cond.constantLong RX6 254 (7919 : Int64) ∈ h_tbl := h_tblm 751 (by decide +kernel) rfl
theorem wcl_X6_256 : Cond.constantLong RX6 256 (6151 : Int64) ∈ h_tbl := h_tblm 752 (by decide +kernel) rfl
theorem wcl_X6_258 : Cond.constantLong RX6 258 (65521 : Int64) ∈ h_tbl := h_tblm 753 (by decide +kernel) rfl
theorem wcl_X6_260 : Cond.constantLong RX6 260 (5 : Int64) ∈ h_tbl := h_tblm 754 (by decide +kernel) rfl
theorem wcl_X7_67 : Cond.constantLong RX7 67 (8 : Int64) ∈ h_tbl := h_tblm 879 (by decide +kernel) rfl
theorem wcl_X7_80 : Cond.constantLong RX7 80 (48 : Int64) ∈ h_tbl := h_tblm 899 (by decide +kernel) rfl
theorem wcl_X7_82 : Cond.constantLong RX7 82 (57 : Int64) ∈ h_tbl := h_tblm 900 (by decide +kernel) rfl
theorem wcl_X7_84 : Cond.constantLong RX7 84 (2 : Int64) ∈ h_tbl := h_tblm 901 (by decide +kernel) rfl
theorem wcl_X7_94 : Cond.constantLong RX7 94 (4 : Int64) ∈ h_tbl := h_tblm 906 (by decide +kernel) rfl
theorem wcl_X7_96 : Cond.constantLong RX7 96 (9 : Int64) ∈ h_tbl := h_tblm 907 (by decide +kernel) rfl
theorem wcl_X7_187 : Cond.constantLong RX7 187 (-1 : Int64) ∈ h_tbl := h_tblm 1056 (by decide +kernel) rfl
theorem wcl_X7_202 : Cond.constantLong RX7 202 (9999 : Int64) ∈ h_tbl := h_tblm 1081 (by decide +kernel) rfl
theorem wcl_X7_204 : Cond.constantLong RX7 204 (100 : Int64) ∈ h_tbl := h_tblm 1082 (by decide +kernel) rfl
theorem wcl_X7_206 : Cond.constantLong RX7 206 (7919 : Int64) ∈ h_tbl := h_tblm 1083 (by decide +kernel) rfl
theorem wcl_X7_208 : Cond.constantLong RX7 208 (6151 : Int64) ∈ h_tbl := h_tblm 1084 (by decide +kernel) rfl
theorem wcl_X7_210 : Cond.constantLong RX7 210 (65521 : Int64) ∈ h_tbl := h_tblm 1085 (by decide +kernel) rfl
theorem wcl_X7_212 : Cond.constantLong RX7 212 (5 : Int64) ∈ h_tbl := h_tblm 1086 (by decide +kernel) rfl
theorem warr_int : Cond.arrayClass (newarray.typeOf .int) ∈ h_tbl := h_tblm 123 (by decide +kernel) rfl
theorem warr_byte : Cond.arrayClass (newarray.typeOf .byte) ∈ h_tbl := h_tblm 122 (by decide +kernel) rfl
theorem warr_boolean : Cond.arrayClass (newarray.typeOf .boolean) ∈ h_tbl := h_tblm 287 (by decide +kernel) rfl
theorem warr_long : Cond.arrayClass (newarray.typeOf .long) ∈ h_tbl := h_tblm 874 (by decide +kernel) rfl
theorem wma_max_s : Cond.static Lib.Math.max.name ∈ h_tbl := h_tblm 395 (by decide +kernel) rfl
theorem wma_max_c : Cond.code Lib.Math.max.name Lib.Math.max.code 2 (some .int) ∈ h_tbl := h_tblm 396 (by decide +kernel) rfl
theorem wma_min_s : Cond.static Lib.Math.min.name ∈ h_tbl := h_tblm 632 (by decide +kernel) rfl
theorem wma_min_c : Cond.code Lib.Math.min.name Lib.Math.min.code 2 (some .int) ∈ h_tbl := h_tblm 633 (by decide +kernel) rfl
theorem wma_i : Cond.initialized "java/lang/Math" ∈ h_tbl := h_tblm 97 (by decide +kernel) rfl
theorem wover : Cond.arrayOver (.object RX2) ∈ lw_tbl := List.mem_of_getElem? (i := 196) (by decide +kernel)
theorem wob_i : Cond.instanceMethod objectInit ∈ h_tbl := h_tblm 107 (by decide +kernel) rfl
theorem wob_c : Cond.code objectInit ⟨#[0xb1]⟩ 1 none ∈ h_tbl := h_tblm 108 (by decide +kernel) rfl
theorem wcp_n : Cond.native arraycopyName ∈ h_tbl := h_tblm 430 (by decide +kernel) rfl
theorem wcp_s : Cond.static arraycopyName ∈ h_tbl := h_tblm 429 (by decide +kernel) rfl
theorem wcp_i : Cond.initialized "java/lang/System" ∈ h_tbl := h_tblm 98 (by decide +kernel) rfl
