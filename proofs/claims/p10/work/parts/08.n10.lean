theorem d_M_init_441 : decode b_M_init 441 = .ok (.bipush 29, 2) := by decide +kernel
theorem d_M_init_443 : decode b_M_init 443 = .ok (.ldc2_w 128, 3) := by decide +kernel
theorem d_M_init_446 : decode b_M_init 446 = .ok (.lastore, 1) := by decide +kernel
theorem d_M_init_447 : decode b_M_init 447 = .ok (.aload_n 0, 1) := by decide +kernel
theorem d_M_init_448 : decode b_M_init 448 = .ok (.getfield 7, 3) := by decide +kernel
theorem d_M_init_451 : decode b_M_init 451 = .ok (.bipush 30, 2) := by decide +kernel
theorem d_M_init_453 : decode b_M_init 453 = .ok (.ldc2_w 130, 3) := by decide +kernel
theorem d_M_init_456 : decode b_M_init 456 = .ok (.lastore, 1) := by decide +kernel
theorem d_M_init_457 : decode b_M_init 457 = .ok (.aload_n 0, 1) := by decide +kernel
theorem d_M_init_458 : decode b_M_init 458 = .ok (.getfield 7, 3) := by decide +kernel
theorem d_M_init_461 : decode b_M_init 461 = .ok (.bipush 31, 2) := by decide +kernel
theorem d_M_init_463 : decode b_M_init 463 = .ok (.ldc2_w 132, 3) := by decide +kernel
theorem d_M_init_466 : decode b_M_init 466 = .ok (.lastore, 1) := by decide +kernel
theorem d_M_init_467 : decode b_M_init 467 = .ok (.aload_n 0, 1) := by decide +kernel
theorem d_M_init_468 : decode b_M_init 468 = .ok (.getfield 7, 3) := by decide +kernel
theorem d_M_init_471 : decode b_M_init 471 = .ok (.bipush 32, 2) := by decide +kernel
theorem d_M_init_473 : decode b_M_init 473 = .ok (.ldc2_w 134, 3) := by decide +kernel
theorem d_M_init_476 : decode b_M_init 476 = .ok (.lastore, 1) := by decide +kernel
theorem d_M_init_477 : decode b_M_init 477 = .ok (.aload_n 0, 1) := by decide +kernel
theorem d_M_init_478 : decode b_M_init 478 = .ok (.getfield 7, 3) := by decide +kernel
theorem d_M_init_481 : decode b_M_init 481 = .ok (.bipush 33, 2) := by decide +kernel
theorem d_M_init_483 : decode b_M_init 483 = .ok (.ldc2_w 136, 3) := by decide +kernel
theorem d_M_init_486 : decode b_M_init 486 = .ok (.lastore, 1) := by decide +kernel
theorem d_M_init_487 : decode b_M_init 487 = .ok (.aload_n 0, 1) := by decide +kernel
theorem d_M_init_488 : decode b_M_init 488 = .ok (.getfield 7, 3) := by decide +kernel
theorem d_M_init_491 : decode b_M_init 491 = .ok (.bipush 34, 2) := by decide +kernel
theorem d_M_init_493 : decode b_M_init 493 = .ok (.ldc2_w 138, 3) := by decide +kernel
theorem d_M_init_496 : decode b_M_init 496 = .ok (.lastore, 1) := by decide +kernel
theorem d_M_init_497 : decode b_M_init 497 = .ok (.aload_n 0, 1) := by decide +kernel
theorem d_M_init_498 : decode b_M_init 498 = .ok (.getfield 7, 3) := by decide +kernel
theorem d_M_init_501 : decode b_M_init 501 = .ok (.bipush 35, 2) := by decide +kernel
theorem d_M_init_503 : decode b_M_init 503 = .ok (.ldc2_w 140, 3) := by decide +kernel
theorem d_M_init_506 : decode b_M_init 506 = .ok (.lastore, 1) := by decide +kernel
theorem d_M_init_507 : decode b_M_init 507 = .ok (.aload_n 0, 1) := by decide +kernel
theorem d_M_init_508 : decode b_M_init 508 = .ok (.getfield 7, 3) := by decide +kernel
theorem d_M_init_511 : decode b_M_init 511 = .ok (.bipush 36, 2) := by decide +kernel
theorem d_M_init_513 : decode b_M_init 513 = .ok (.ldc2_w 142, 3) := by decide +kernel
theorem d_M_init_516 : decode b_M_init 516 = .ok (.lastore, 1) := by decide +kernel
theorem d_M_init_517 : decode b_M_init 517 = .ok (.aload_n 0, 1) := by decide +kernel
theorem d_M_init_518 : decode b_M_init 518 = .ok (.getfield 7, 3) := by decide +kernel
theorem d_M_init_521 : decode b_M_init 521 = .ok (.bipush 37, 2) := by decide +kernel
theorem d_M_init_523 : decode b_M_init 523 = .ok (.ldc2_w 144, 3) := by decide +kernel
theorem d_M_init_526 : decode b_M_init 526 = .ok (.lastore, 1) := by decide +kernel
theorem d_M_init_527 : decode b_M_init 527 = .ok (.aload_n 0, 1) := by decide +kernel
theorem d_M_init_528 : decode b_M_init 528 = .ok (.getfield 7, 3) := by decide +kernel
theorem d_M_init_531 : decode b_M_init 531 = .ok (.bipush 38, 2) := by decide +kernel
theorem d_M_init_533 : decode b_M_init 533 = .ok (.ldc2_w 146, 3) := by decide +kernel
theorem d_M_init_536 : decode b_M_init 536 = .ok (.lastore, 1) := by decide +kernel
theorem d_M_init_537 : decode b_M_init 537 = .ok (.aload_n 0, 1) := by decide +kernel
theorem d_M_init_538 : decode b_M_init 538 = .ok (.getfield 7, 3) := by decide +kernel
theorem d_M_init_541 : decode b_M_init 541 = .ok (.bipush 39, 2) := by decide +kernel
theorem d_M_init_543 : decode b_M_init 543 = .ok (.ldc2_w 148, 3) := by decide +kernel
theorem d_M_init_546 : decode b_M_init 546 = .ok (.lastore, 1) := by decide +kernel
theorem d_M_init_547 : decode b_M_init 547 = .ok (.aload_n 0, 1) := by decide +kernel
theorem d_M_init_548 : decode b_M_init 548 = .ok (.getfield 7, 3) := by decide +kernel
theorem d_M_init_551 : decode b_M_init 551 = .ok (.bipush 40, 2) := by decide +kernel
theorem d_M_init_553 : decode b_M_init 553 = .ok (.ldc2_w 150, 3) := by decide +kernel
theorem d_M_init_556 : decode b_M_init 556 = .ok (.lastore, 1) := by decide +kernel
theorem d_M_init_557 : decode b_M_init 557 = .ok (.aload_n 0, 1) := by decide +kernel
theorem d_M_init_558 : decode b_M_init 558 = .ok (.getfield 7, 3) := by decide +kernel
theorem d_M_init_561 : decode b_M_init 561 = .ok (.bipush 41, 2) := by decide +kernel
theorem d_M_init_563 : decode b_M_init 563 = .ok (.ldc2_w 152, 3) := by decide +kernel
theorem d_M_init_566 : decode b_M_init 566 = .ok (.lastore, 1) := by decide +kernel
theorem d_M_init_567 : decode b_M_init 567 = .ok (.aload_n 0, 1) := by decide +kernel
theorem d_M_init_568 : decode b_M_init 568 = .ok (.getfield 7, 3) := by decide +kernel
theorem d_M_init_571 : decode b_M_init 571 = .ok (.bipush 42, 2) := by decide +kernel
theorem d_M_init_573 : decode b_M_init 573 = .ok (.ldc2_w 154, 3) := by decide +kernel
theorem d_M_init_576 : decode b_M_init 576 = .ok (.lastore, 1) := by decide +kernel
theorem d_M_init_577 : decode b_M_init 577 = .ok (.aload_n 0, 1) := by decide +kernel
theorem d_M_init_578 : decode b_M_init 578 = .ok (.getfield 7, 3) := by decide +kernel
theorem d_M_init_581 : decode b_M_init 581 = .ok (.bipush 43, 2) := by decide +kernel
theorem d_M_init_583 : decode b_M_init 583 = .ok (.ldc2_w 156, 3) := by decide +kernel
theorem d_M_init_586 : decode b_M_init 586 = .ok (.lastore, 1) := by decide +kernel
theorem d_M_init_587 : decode b_M_init 587 = .ok (.aload_n 0, 1) := by decide +kernel
theorem d_M_init_588 : decode b_M_init 588 = .ok (.getfield 7, 3) := by decide +kernel
theorem d_M_init_591 : decode b_M_init 591 = .ok (.bipush 44, 2) := by decide +kernel
theorem d_M_init_593 : decode b_M_init 593 = .ok (.ldc2_w 158, 3) := by decide +kernel
theorem d_M_init_596 : decode b_M_init 596 = .ok (.lastore, 1) := by decide +kernel
theorem d_M_init_597 : decode b_M_init 597 = .ok (.aload_n 0, 1) := by decide +kernel
theorem d_M_init_598 : decode b_M_init 598 = .ok (.getfield 7, 3) := by decide +kernel
theorem d_M_init_601 : decode b_M_init 601 = .ok (.bipush 45, 2) := by decide +kernel
theorem d_M_init_603 : decode b_M_init 603 = .ok (.ldc2_w 160, 3) := by decide +kernel
theorem d_M_init_606 : decode b_M_init 606 = .ok (.lastore, 1) := by decide +kernel
theorem d_M_init_607 : decode b_M_init 607 = .ok (.aload_n 0, 1) := by decide +kernel
theorem d_M_init_608 : decode b_M_init 608 = .ok (.getfield 13, 3) := by decide +kernel
theorem d_M_init_611 : decode b_M_init 611 = .ok (.iconst 0, 1) := by decide +kernel
theorem d_M_init_612 : decode b_M_init 612 = .ok (.ldc 162, 2) := by decide +kernel
theorem d_M_init_614 : decode b_M_init 614 = .ok (.iastore, 1) := by decide +kernel
theorem d_M_init_615 : decode b_M_init 615 = .ok (.aload_n 0, 1) := by decide +kernel
theorem d_M_init_616 : decode b_M_init 616 = .ok (.getfield 13, 3) := by decide +kernel
theorem d_M_init_619 : decode b_M_init 619 = .ok (.iconst 1, 1) := by decide +kernel
theorem d_M_init_620 : decode b_M_init 620 = .ok (.ldc 163, 2) := by decide +kernel
theorem d_M_init_622 : decode b_M_init 622 = .ok (.iastore, 1) := by decide +kernel
theorem d_M_init_623 : decode b_M_init 623 = .ok (.aload_n 0, 1) := by decide +kernel
theorem d_M_init_624 : decode b_M_init 624 = .ok (.getfield 13, 3) := by decide +kernel
theorem d_M_init_627 : decode b_M_init 627 = .ok (.iconst 2, 1) := by decide +kernel
theorem d_M_init_628 : decode b_M_init 628 = .ok (.ldc 164, 2) := by decide +kernel
theorem d_M_init_630 : decode b_M_init 630 = .ok (.iastore, 1) := by decide +kernel
theorem d_M_init_631 : decode b_M_init 631 = .ok (.aload_n 0, 1) := by decide +kernel
theorem d_M_init_632 : decode b_M_init 632 = .ok (.getfield 13, 3) := by decide +kernel
theorem d_M_init_635 : decode b_M_init 635 = .ok (.iconst 3, 1) := by decide +kernel
theorem d_M_init_636 : decode b_M_init 636 = .ok (.ldc 165, 2) := by decide +kernel
theorem d_M_init_638 : decode b_M_init 638 = .ok (.iastore, 1) := by decide +kernel
theorem d_M_init_639 : decode b_M_init 639 = .ok (.aload_n 0, 1) := by decide +kernel
theorem d_M_init_640 : decode b_M_init 640 = .ok (.getfield 13, 3) := by decide +kernel
theorem d_M_init_643 : decode b_M_init 643 = .ok (.iconst 4, 1) := by decide +kernel
theorem d_M_init_644 : decode b_M_init 644 = .ok (.ldc 166, 2) := by decide +kernel
theorem d_M_init_646 : decode b_M_init 646 = .ok (.iastore, 1) := by decide +kernel
theorem d_M_init_647 : decode b_M_init 647 = .ok (.aload_n 0, 1) := by decide +kernel
theorem d_M_init_648 : decode b_M_init 648 = .ok (.getfield 13, 3) := by decide +kernel
theorem d_M_init_651 : decode b_M_init 651 = .ok (.iconst 5, 1) := by decide +kernel
theorem d_M_init_652 : decode b_M_init 652 = .ok (.ldc 167, 2) := by decide +kernel
theorem d_M_init_654 : decode b_M_init 654 = .ok (.iastore, 1) := by decide +kernel
theorem d_M_init_655 : decode b_M_init 655 = .ok (.aload_n 0, 1) := by decide +kernel
theorem d_M_init_656 : decode b_M_init 656 = .ok (.getfield 13, 3) := by decide +kernel
theorem d_M_init_659 : decode b_M_init 659 = .ok (.bipush 6, 2) := by decide +kernel
theorem d_M_init_661 : decode b_M_init 661 = .ok (.ldc 168, 2) := by decide +kernel
theorem d_M_init_663 : decode b_M_init 663 = .ok (.iastore, 1) := by decide +kernel
theorem d_M_init_664 : decode b_M_init 664 = .ok (.aload_n 0, 1) := by decide +kernel
theorem d_M_init_665 : decode b_M_init 665 = .ok (.getfield 13, 3) := by decide +kernel
theorem d_M_init_668 : decode b_M_init 668 = .ok (.bipush 7, 2) := by decide +kernel
theorem d_M_init_670 : decode b_M_init 670 = .ok (.ldc 169, 2) := by decide +kernel
theorem d_M_init_672 : decode b_M_init 672 = .ok (.iastore, 1) := by decide +kernel
theorem d_M_init_673 : decode b_M_init 673 = .ok (.aload_n 0, 1) := by decide +kernel
theorem d_M_init_674 : decode b_M_init 674 = .ok (.getfield 13, 3) := by decide +kernel
theorem d_M_init_677 : decode b_M_init 677 = .ok (.bipush 8, 2) := by decide +kernel
theorem d_M_init_679 : decode b_M_init 679 = .ok (.ldc 170, 2) := by decide +kernel
theorem d_M_init_681 : decode b_M_init 681 = .ok (.iastore, 1) := by decide +kernel
theorem d_M_init_682 : decode b_M_init 682 = .ok (.aload_n 0, 1) := by decide +kernel
theorem d_M_init_683 : decode b_M_init 683 = .ok (.getfield 13, 3) := by decide +kernel
theorem d_M_init_686 : decode b_M_init 686 = .ok (.bipush 9, 2) := by decide +kernel
theorem d_M_init_688 : decode b_M_init 688 = .ok (.ldc 171, 2) := by decide +kernel
theorem d_M_init_690 : decode b_M_init 690 = .ok (.iastore, 1) := by decide +kernel
theorem d_M_init_691 : decode b_M_init 691 = .ok (.aload_n 0, 1) := by decide +kernel
theorem d_M_init_692 : decode b_M_init 692 = .ok (.getfield 13, 3) := by decide +kernel
theorem d_M_init_695 : decode b_M_init 695 = .ok (.bipush 10, 2) := by decide +kernel
theorem d_M_init_697 : decode b_M_init 697 = .ok (.ldc 172, 2) := by decide +kernel
theorem d_M_init_699 : decode b_M_init 699 = .ok (.iastore, 1) := by decide +kernel
theorem d_M_init_700 : decode b_M_init 700 = .ok (.aload_n 0, 1) := by decide +kernel
theorem d_M_init_701 : decode b_M_init 701 = .ok (.getfield 13, 3) := by decide +kernel
theorem d_M_init_704 : decode b_M_init 704 = .ok (.bipush 11, 2) := by decide +kernel
theorem d_M_init_706 : decode b_M_init 706 = .ok (.ldc 173, 2) := by decide +kernel
theorem d_M_init_708 : decode b_M_init 708 = .ok (.iastore, 1) := by decide +kernel
theorem d_M_init_709 : decode b_M_init 709 = .ok (.aload_n 0, 1) := by decide +kernel
theorem d_M_init_710 : decode b_M_init 710 = .ok (.getfield 13, 3) := by decide +kernel
theorem d_M_init_713 : decode b_M_init 713 = .ok (.bipush 12, 2) := by decide +kernel
theorem d_M_init_715 : decode b_M_init 715 = .ok (.ldc 174, 2) := by decide +kernel
theorem d_M_init_717 : decode b_M_init 717 = .ok (.iastore, 1) := by decide +kernel
theorem d_M_init_718 : decode b_M_init 718 = .ok (.aload_n 0, 1) := by decide +kernel
theorem d_M_init_719 : decode b_M_init 719 = .ok (.getfield 13, 3) := by decide +kernel
