theorem d_LW_law_534 : decode b_LW_law 534 = .ok (.iadd, 1) := by decide +kernel
theorem d_LW_law_535 : decode b_LW_law 535 = .ok (.iaload, 1) := by decide +kernel
theorem d_LW_law_536 : decode b_LW_law 536 = .ok (.invokevirtual 85, 3) := by decide +kernel
theorem d_LW_law_539 : decode b_LW_law 539 = .ok (.istore 6, 2) := by decide +kernel
theorem d_LW_law_541 : decode b_LW_law 541 = .ok (.aload_n 2, 1) := by decide +kernel
theorem d_LW_law_542 : decode b_LW_law 542 = .ok (.invokevirtual 60, 3) := by decide +kernel
theorem d_LW_law_545 : decode b_LW_law 545 = .ok (.iload 5, 2) := by decide +kernel
theorem d_LW_law_547 : decode b_LW_law 547 = .ok (.if_icmp .eq 5, 3) := by decide +kernel
theorem d_LW_law_550 : decode b_LW_law 550 = .ok (.iconst 0, 1) := by decide +kernel
theorem d_LW_law_551 : decode b_LW_law 551 = .ok (.ireturn, 1) := by decide +kernel
theorem d_LW_law_552 : decode b_LW_law 552 = .ok (.iload 5, 2) := by decide +kernel
theorem d_LW_law_554 : decode b_LW_law 554 = .ok (.ifCond .ne 15, 3) := by decide +kernel
theorem d_LW_law_557 : decode b_LW_law 557 = .ok (.aload_n 3, 1) := by decide +kernel
theorem d_LW_law_558 : decode b_LW_law 558 = .ok (.iconst 0, 1) := by decide +kernel
theorem d_LW_law_559 : decode b_LW_law 559 = .ok (.laload, 1) := by decide +kernel
theorem d_LW_law_560 : decode b_LW_law 560 = .ok (.iload 6, 2) := by decide +kernel
theorem d_LW_law_562 : decode b_LW_law 562 = .ok (.i2l, 1) := by decide +kernel
theorem d_LW_law_563 : decode b_LW_law 563 = .ok (.lcmp, 1) := by decide +kernel
theorem d_LW_law_564 : decode b_LW_law 564 = .ok (.ifCond .eq 5, 3) := by decide +kernel
theorem d_LW_law_567 : decode b_LW_law 567 = .ok (.iconst 0, 1) := by decide +kernel
theorem d_LW_law_568 : decode b_LW_law 568 = .ok (.ireturn, 1) := by decide +kernel
theorem d_LW_law_569 : decode b_LW_law 569 = .ok (.goto 272, 3) := by decide +kernel
theorem d_LW_law_572 : decode b_LW_law 572 = .ok (.aload_n 1, 1) := by decide +kernel
theorem d_LW_law_573 : decode b_LW_law 573 = .ok (.invokevirtual 86, 3) := by decide +kernel
theorem d_LW_law_576 : decode b_LW_law 576 = .ok (.aload_n 2, 1) := by decide +kernel
theorem d_LW_law_577 : decode b_LW_law 577 = .ok (.invokevirtual 89, 3) := by decide +kernel
theorem d_LW_law_580 : decode b_LW_law 580 = .ok (.if_icmp .eq 261, 3) := by decide +kernel
theorem d_LW_law_583 : decode b_LW_law 583 = .ok (.iconst 0, 1) := by decide +kernel
theorem d_LW_law_584 : decode b_LW_law 584 = .ok (.ireturn, 1) := by decide +kernel
theorem d_LW_law_585 : decode b_LW_law 585 = .ok (.aload_n 1, 1) := by decide +kernel
theorem d_LW_law_586 : decode b_LW_law 586 = .ok (.aload_n 0, 1) := by decide +kernel
theorem d_LW_law_587 : decode b_LW_law 587 = .ok (.iload 4, 2) := by decide +kernel
theorem d_LW_law_589 : decode b_LW_law 589 = .ok (.iconst 1, 1) := by decide +kernel
theorem d_LW_law_590 : decode b_LW_law 590 = .ok (.iadd, 1) := by decide +kernel
theorem d_LW_law_591 : decode b_LW_law 591 = .ok (.iaload, 1) := by decide +kernel
theorem d_LW_law_592 : decode b_LW_law 592 = .ok (.aload_n 0, 1) := by decide +kernel
theorem d_LW_law_593 : decode b_LW_law 593 = .ok (.iload 4, 2) := by decide +kernel
theorem d_LW_law_595 : decode b_LW_law 595 = .ok (.iconst 2, 1) := by decide +kernel
theorem d_LW_law_596 : decode b_LW_law 596 = .ok (.iadd, 1) := by decide +kernel
theorem d_LW_law_597 : decode b_LW_law 597 = .ok (.iaload, 1) := by decide +kernel
theorem d_LW_law_598 : decode b_LW_law 598 = .ok (.aload_n 3, 1) := by decide +kernel
theorem d_LW_law_599 : decode b_LW_law 599 = .ok (.invokestatic 90, 3) := by decide +kernel
theorem d_LW_law_602 : decode b_LW_law 602 = .ok (.istore 5, 2) := by decide +kernel
theorem d_LW_law_604 : decode b_LW_law 604 = .ok (.aload_n 2, 1) := by decide +kernel
theorem d_LW_law_605 : decode b_LW_law 605 = .ok (.aload_n 0, 1) := by decide +kernel
theorem d_LW_law_606 : decode b_LW_law 606 = .ok (.iload 4, 2) := by decide +kernel
theorem d_LW_law_608 : decode b_LW_law 608 = .ok (.iconst 1, 1) := by decide +kernel
theorem d_LW_law_609 : decode b_LW_law 609 = .ok (.iadd, 1) := by decide +kernel
theorem d_LW_law_610 : decode b_LW_law 610 = .ok (.iaload, 1) := by decide +kernel
theorem d_LW_law_611 : decode b_LW_law 611 = .ok (.aload_n 0, 1) := by decide +kernel
theorem d_LW_law_612 : decode b_LW_law 612 = .ok (.iload 4, 2) := by decide +kernel
theorem d_LW_law_614 : decode b_LW_law 614 = .ok (.iconst 2, 1) := by decide +kernel
theorem d_LW_law_615 : decode b_LW_law 615 = .ok (.iadd, 1) := by decide +kernel
theorem d_LW_law_616 : decode b_LW_law 616 = .ok (.iaload, 1) := by decide +kernel
theorem d_LW_law_617 : decode b_LW_law 617 = .ok (.invokevirtual 92, 3) := by decide +kernel
theorem d_LW_law_620 : decode b_LW_law 620 = .ok (.istore 6, 2) := by decide +kernel
theorem d_LW_law_622 : decode b_LW_law 622 = .ok (.aload_n 2, 1) := by decide +kernel
theorem d_LW_law_623 : decode b_LW_law 623 = .ok (.invokevirtual 60, 3) := by decide +kernel
theorem d_LW_law_626 : decode b_LW_law 626 = .ok (.iload 5, 2) := by decide +kernel
theorem d_LW_law_628 : decode b_LW_law 628 = .ok (.if_icmp .eq 5, 3) := by decide +kernel
theorem d_LW_law_631 : decode b_LW_law 631 = .ok (.iconst 0, 1) := by decide +kernel
theorem d_LW_law_632 : decode b_LW_law 632 = .ok (.ireturn, 1) := by decide +kernel
theorem d_LW_law_633 : decode b_LW_law 633 = .ok (.iload 5, 2) := by decide +kernel
theorem d_LW_law_635 : decode b_LW_law 635 = .ok (.ifCond .ne 15, 3) := by decide +kernel
theorem d_LW_law_638 : decode b_LW_law 638 = .ok (.aload_n 3, 1) := by decide +kernel
theorem d_LW_law_639 : decode b_LW_law 639 = .ok (.iconst 0, 1) := by decide +kernel
theorem d_LW_law_640 : decode b_LW_law 640 = .ok (.laload, 1) := by decide +kernel
theorem d_LW_law_641 : decode b_LW_law 641 = .ok (.iload 6, 2) := by decide +kernel
theorem d_LW_law_643 : decode b_LW_law 643 = .ok (.i2l, 1) := by decide +kernel
theorem d_LW_law_644 : decode b_LW_law 644 = .ok (.lcmp, 1) := by decide +kernel
theorem d_LW_law_645 : decode b_LW_law 645 = .ok (.ifCond .eq 5, 3) := by decide +kernel
theorem d_LW_law_648 : decode b_LW_law 648 = .ok (.iconst 0, 1) := by decide +kernel
theorem d_LW_law_649 : decode b_LW_law 649 = .ok (.ireturn, 1) := by decide +kernel
theorem d_LW_law_650 : decode b_LW_law 650 = .ok (.goto 191, 3) := by decide +kernel
theorem d_LW_law_653 : decode b_LW_law 653 = .ok (.aload_n 1, 1) := by decide +kernel
theorem d_LW_law_654 : decode b_LW_law 654 = .ok (.invokevirtual 93, 3) := by decide +kernel
theorem d_LW_law_657 : decode b_LW_law 657 = .ok (.aload_n 2, 1) := by decide +kernel
theorem d_LW_law_658 : decode b_LW_law 658 = .ok (.invokevirtual 97, 3) := by decide +kernel
theorem d_LW_law_661 : decode b_LW_law 661 = .ok (.if_icmp .eq 180, 3) := by decide +kernel
theorem d_LW_law_664 : decode b_LW_law 664 = .ok (.iconst 0, 1) := by decide +kernel
theorem d_LW_law_665 : decode b_LW_law 665 = .ok (.ireturn, 1) := by decide +kernel
theorem d_LW_law_666 : decode b_LW_law 666 = .ok (.aload_n 1, 1) := by decide +kernel
theorem d_LW_law_667 : decode b_LW_law 667 = .ok (.aload_n 0, 1) := by decide +kernel
theorem d_LW_law_668 : decode b_LW_law 668 = .ok (.iload 4, 2) := by decide +kernel
theorem d_LW_law_670 : decode b_LW_law 670 = .ok (.iconst 1, 1) := by decide +kernel
theorem d_LW_law_671 : decode b_LW_law 671 = .ok (.iadd, 1) := by decide +kernel
theorem d_LW_law_672 : decode b_LW_law 672 = .ok (.iaload, 1) := by decide +kernel
theorem d_LW_law_673 : decode b_LW_law 673 = .ok (.aload_n 3, 1) := by decide +kernel
theorem d_LW_law_674 : decode b_LW_law 674 = .ok (.invokestatic 98, 3) := by decide +kernel
theorem d_LW_law_677 : decode b_LW_law 677 = .ok (.istore 5, 2) := by decide +kernel
theorem d_LW_law_679 : decode b_LW_law 679 = .ok (.aload_n 2, 1) := by decide +kernel
theorem d_LW_law_680 : decode b_LW_law 680 = .ok (.aload_n 0, 1) := by decide +kernel
theorem d_LW_law_681 : decode b_LW_law 681 = .ok (.iload 4, 2) := by decide +kernel
theorem d_LW_law_683 : decode b_LW_law 683 = .ok (.iconst 1, 1) := by decide +kernel
theorem d_LW_law_684 : decode b_LW_law 684 = .ok (.iadd, 1) := by decide +kernel
theorem d_LW_law_685 : decode b_LW_law 685 = .ok (.iaload, 1) := by decide +kernel
theorem d_LW_law_686 : decode b_LW_law 686 = .ok (.invokevirtual 100, 3) := by decide +kernel
theorem d_LW_law_689 : decode b_LW_law 689 = .ok (.istore 6, 2) := by decide +kernel
theorem d_LW_law_691 : decode b_LW_law 691 = .ok (.aload_n 2, 1) := by decide +kernel
theorem d_LW_law_692 : decode b_LW_law 692 = .ok (.invokevirtual 60, 3) := by decide +kernel
