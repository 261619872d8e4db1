theorem d_La_law_560 : decode code 560 = .ok (.iload_n 3, 1) := by decide +kernel
theorem d_La_law_561 : decode code 561 = .ok (.iconst 1, 1) := by decide +kernel
theorem d_La_law_562 : decode code 562 = .ok (.iadd, 1) := by decide +kernel
theorem d_La_law_563 : decode code 563 = .ok (.iaload, 1) := by decide +kernel
theorem d_La_law_564 : decode code 564 = .ok (.aload_n 0, 1) := by decide +kernel
theorem d_La_law_565 : decode code 565 = .ok (.iload_n 3, 1) := by decide +kernel
theorem d_La_law_566 : decode code 566 = .ok (.iconst 2, 1) := by decide +kernel
theorem d_La_law_567 : decode code 567 = .ok (.iadd, 1) := by decide +kernel
theorem d_La_law_568 : decode code 568 = .ok (.iaload, 1) := by decide +kernel
theorem d_La_law_569 : decode code 569 = .ok (.aload_n 0, 1) := by decide +kernel
theorem d_La_law_570 : decode code 570 = .ok (.iload_n 3, 1) := by decide +kernel
theorem d_La_law_571 : decode code 571 = .ok (.iconst 3, 1) := by decide +kernel
theorem d_La_law_572 : decode code 572 = .ok (.iadd, 1) := by decide +kernel
theorem d_La_law_573 : decode code 573 = .ok (.iaload, 1) := by decide +kernel
theorem d_La_law_574 : decode code 574 = .ok (.invokevirtual 88, 3) := by decide +kernel
theorem d_La_law_577 : decode code 577 = .ok (.if_icmp .eq 156, 3) := by decide +kernel
theorem d_La_law_580 : decode code 580 = .ok (.iconst 0, 1) := by decide +kernel
theorem d_La_law_581 : decode code 581 = .ok (.ireturn, 1) := by decide +kernel
theorem d_La_law_582 : decode code 582 = .ok (.aload_n 1, 1) := by decide +kernel
theorem d_La_law_583 : decode code 583 = .ok (.aload_n 0, 1) := by decide +kernel
theorem d_La_law_584 : decode code 584 = .ok (.iload_n 3, 1) := by decide +kernel
theorem d_La_law_585 : decode code 585 = .ok (.iconst 1, 1) := by decide +kernel
theorem d_La_law_586 : decode code 586 = .ok (.iadd, 1) := by decide +kernel
theorem d_La_law_587 : decode code 587 = .ok (.iaload, 1) := by decide +kernel
theorem d_La_law_588 : decode code 588 = .ok (.aload_n 0, 1) := by decide +kernel
theorem d_La_law_589 : decode code 589 = .ok (.iload_n 3, 1) := by decide +kernel
theorem d_La_law_590 : decode code 590 = .ok (.iconst 2, 1) := by decide +kernel
theorem d_La_law_591 : decode code 591 = .ok (.iadd, 1) := by decide +kernel
theorem d_La_law_592 : decode code 592 = .ok (.iaload, 1) := by decide +kernel
theorem d_La_law_593 : decode code 593 = .ok (.invokevirtual 89, 3) := by decide +kernel
theorem d_La_law_596 : decode code 596 = .ok (.aload_n 2, 1) := by decide +kernel
theorem d_La_law_597 : decode code 597 = .ok (.aload_n 0, 1) := by decide +kernel
theorem d_La_law_598 : decode code 598 = .ok (.iload_n 3, 1) := by decide +kernel
theorem d_La_law_599 : decode code 599 = .ok (.iconst 1, 1) := by decide +kernel
theorem d_La_law_600 : decode code 600 = .ok (.iadd, 1) := by decide +kernel
theorem d_La_law_601 : decode code 601 = .ok (.iaload, 1) := by decide +kernel
theorem d_La_law_602 : decode code 602 = .ok (.aload_n 0, 1) := by decide +kernel
theorem d_La_law_603 : decode code 603 = .ok (.iload_n 3, 1) := by decide +kernel
theorem d_La_law_604 : decode code 604 = .ok (.iconst 2, 1) := by decide +kernel
theorem d_La_law_605 : decode code 605 = .ok (.iadd, 1) := by decide +kernel
theorem d_La_law_606 : decode code 606 = .ok (.iaload, 1) := by decide +kernel
theorem d_La_law_607 : decode code 607 = .ok (.invokevirtual 92, 3) := by decide +kernel
theorem d_La_law_610 : decode code 610 = .ok (.if_icmp .eq 123, 3) := by decide +kernel
theorem d_La_law_613 : decode code 613 = .ok (.iconst 0, 1) := by decide +kernel
theorem d_La_law_614 : decode code 614 = .ok (.ireturn, 1) := by decide +kernel
theorem d_La_law_615 : decode code 615 = .ok (.aload_n 1, 1) := by decide +kernel
theorem d_La_law_616 : decode code 616 = .ok (.invokevirtual 93, 3) := by decide +kernel
theorem d_La_law_619 : decode code 619 = .ok (.aload_n 2, 1) := by decide +kernel
theorem d_La_law_620 : decode code 620 = .ok (.invokevirtual 96, 3) := by decide +kernel
theorem d_La_law_623 : decode code 623 = .ok (.if_icmp .eq 110, 3) := by decide +kernel
theorem d_La_law_626 : decode code 626 = .ok (.iconst 0, 1) := by decide +kernel
theorem d_La_law_627 : decode code 627 = .ok (.ireturn, 1) := by decide +kernel
theorem d_La_law_628 : decode code 628 = .ok (.aload_n 1, 1) := by decide +kernel
theorem d_La_law_629 : decode code 629 = .ok (.aload_n 0, 1) := by decide +kernel
theorem d_La_law_630 : decode code 630 = .ok (.iload_n 3, 1) := by decide +kernel
theorem d_La_law_631 : decode code 631 = .ok (.iconst 1, 1) := by decide +kernel
theorem d_La_law_632 : decode code 632 = .ok (.iadd, 1) := by decide +kernel
theorem d_La_law_633 : decode code 633 = .ok (.iaload, 1) := by decide +kernel
theorem d_La_law_634 : decode code 634 = .ok (.invokevirtual 97, 3) := by decide +kernel
theorem d_La_law_637 : decode code 637 = .ok (.aload_n 2, 1) := by decide +kernel
theorem d_La_law_638 : decode code 638 = .ok (.aload_n 0, 1) := by decide +kernel
theorem d_La_law_639 : decode code 639 = .ok (.iload_n 3, 1) := by decide +kernel
theorem d_La_law_640 : decode code 640 = .ok (.iconst 1, 1) := by decide +kernel
theorem d_La_law_641 : decode code 641 = .ok (.iadd, 1) := by decide +kernel
theorem d_La_law_642 : decode code 642 = .ok (.iaload, 1) := by decide +kernel
theorem d_La_law_643 : decode code 643 = .ok (.invokevirtual 100, 3) := by decide +kernel
theorem d_La_law_646 : decode code 646 = .ok (.if_icmp .eq 87, 3) := by decide +kernel
theorem d_La_law_649 : decode code 649 = .ok (.iconst 0, 1) := by decide +kernel
theorem d_La_law_650 : decode code 650 = .ok (.ireturn, 1) := by decide +kernel
theorem d_La_law_651 : decode code 651 = .ok (.aload_n 1, 1) := by decide +kernel
theorem d_La_law_652 : decode code 652 = .ok (.invokevirtual 101, 3) := by decide +kernel
theorem d_La_law_655 : decode code 655 = .ok (.aload_n 2, 1) := by decide +kernel
theorem d_La_law_656 : decode code 656 = .ok (.invokevirtual 104, 3) := by decide +kernel
theorem d_La_law_659 : decode code 659 = .ok (.if_icmp .eq 74, 3) := by decide +kernel
theorem d_La_law_662 : decode code 662 = .ok (.iconst 0, 1) := by decide +kernel
theorem d_La_law_663 : decode code 663 = .ok (.ireturn, 1) := by decide +kernel
theorem d_La_law_664 : decode code 664 = .ok (.aload_n 1, 1) := by decide +kernel
theorem d_La_law_665 : decode code 665 = .ok (.aload_n 0, 1) := by decide +kernel
theorem d_La_law_666 : decode code 666 = .ok (.iload_n 3, 1) := by decide +kernel
theorem d_La_law_667 : decode code 667 = .ok (.iconst 1, 1) := by decide +kernel
theorem d_La_law_668 : decode code 668 = .ok (.iadd, 1) := by decide +kernel
theorem d_La_law_669 : decode code 669 = .ok (.iaload, 1) := by decide +kernel
theorem d_La_law_670 : decode code 670 = .ok (.invokevirtual 105, 3) := by decide +kernel
theorem d_La_law_673 : decode code 673 = .ok (.aload_n 2, 1) := by decide +kernel
theorem d_La_law_674 : decode code 674 = .ok (.aload_n 0, 1) := by decide +kernel
theorem d_La_law_675 : decode code 675 = .ok (.iload_n 3, 1) := by decide +kernel
theorem d_La_law_676 : decode code 676 = .ok (.iconst 1, 1) := by decide +kernel
theorem d_La_law_677 : decode code 677 = .ok (.iadd, 1) := by decide +kernel
theorem d_La_law_678 : decode code 678 = .ok (.iaload, 1) := by decide +kernel
theorem d_La_law_679 : decode code 679 = .ok (.invokevirtual 108, 3) := by decide +kernel
theorem d_La_law_682 : decode code 682 = .ok (.if_icmp .eq 51, 3) := by decide +kernel
theorem d_La_law_685 : decode code 685 = .ok (.iconst 0, 1) := by decide +kernel
theorem d_La_law_686 : decode code 686 = .ok (.ireturn, 1) := by decide +kernel
theorem d_La_law_687 : decode code 687 = .ok (.aload_n 1, 1) := by decide +kernel
theorem d_La_law_688 : decode code 688 = .ok (.aload_n 0, 1) := by decide +kernel
theorem d_La_law_689 : decode code 689 = .ok (.iload_n 3, 1) := by decide +kernel
theorem d_La_law_690 : decode code 690 = .ok (.iconst 1, 1) := by decide +kernel
theorem d_La_law_691 : decode code 691 = .ok (.iadd, 1) := by decide +kernel
theorem d_La_law_692 : decode code 692 = .ok (.iaload, 1) := by decide +kernel
theorem d_La_law_693 : decode code 693 = .ok (.invokevirtual 109, 3) := by decide +kernel
theorem d_La_law_696 : decode code 696 = .ok (.aload_n 2, 1) := by decide +kernel
theorem d_La_law_697 : decode code 697 = .ok (.aload_n 0, 1) := by decide +kernel
theorem d_La_law_698 : decode code 698 = .ok (.iload_n 3, 1) := by decide +kernel
theorem d_La_law_699 : decode code 699 = .ok (.iconst 1, 1) := by decide +kernel
theorem d_La_law_700 : decode code 700 = .ok (.iadd, 1) := by decide +kernel
theorem d_La_law_701 : decode code 701 = .ok (.iaload, 1) := by decide +kernel
theorem d_La_law_702 : decode code 702 = .ok (.invokevirtual 112, 3) := by decide +kernel
theorem d_La_law_705 : decode code 705 = .ok (.if_icmp .eq 28, 3) := by decide +kernel
theorem d_La_law_708 : decode code 708 = .ok (.iconst 0, 1) := by decide +kernel
theorem d_La_law_709 : decode code 709 = .ok (.ireturn, 1) := by decide +kernel
