theorem d_law_608 : decode b_law 608 = .ok (.aload_n 0, 1) := by decide +kernel
theorem d_law_609 : decode b_law 609 = .ok (.iload_n 3, 1) := by decide +kernel
theorem d_law_610 : decode b_law 610 = .ok (.iconst 1, 1) := by decide +kernel
theorem d_law_611 : decode b_law 611 = .ok (.iadd, 1) := by decide +kernel
theorem d_law_612 : decode b_law 612 = .ok (.iaload, 1) := by decide +kernel
theorem d_law_613 : decode b_law 613 = .ok (.invokevirtual 66, 3) := by decide +kernel
theorem d_law_616 : decode b_law 616 = .ok (.aload_n 2, 1) := by decide +kernel
theorem d_law_617 : decode b_law 617 = .ok (.aload_n 0, 1) := by decide +kernel
theorem d_law_618 : decode b_law 618 = .ok (.iload_n 3, 1) := by decide +kernel
theorem d_law_619 : decode b_law 619 = .ok (.iconst 1, 1) := by decide +kernel
theorem d_law_620 : decode b_law 620 = .ok (.iadd, 1) := by decide +kernel
theorem d_law_621 : decode b_law 621 = .ok (.iaload, 1) := by decide +kernel
theorem d_law_622 : decode b_law 622 = .ok (.invokevirtual 70, 3) := by decide +kernel
theorem d_law_625 : decode b_law 625 = .ok (.if_icmp .eq 67, 3) := by decide +kernel
theorem d_law_628 : decode b_law 628 = .ok (.iconst 0, 1) := by decide +kernel
theorem d_law_629 : decode b_law 629 = .ok (.ireturn, 1) := by decide +kernel
theorem d_law_630 : decode b_law 630 = .ok (.aload_n 1, 1) := by decide +kernel
theorem d_law_631 : decode b_law 631 = .ok (.invokevirtual 71, 3) := by decide +kernel
theorem d_law_634 : decode b_law 634 = .ok (.aload_n 2, 1) := by decide +kernel
theorem d_law_635 : decode b_law 635 = .ok (.invokevirtual 74, 3) := by decide +kernel
theorem d_law_638 : decode b_law 638 = .ok (.if_icmp .eq 54, 3) := by decide +kernel
theorem d_law_641 : decode b_law 641 = .ok (.iconst 0, 1) := by decide +kernel
theorem d_law_642 : decode b_law 642 = .ok (.ireturn, 1) := by decide +kernel
theorem d_law_643 : decode b_law 643 = .ok (.aload_n 1, 1) := by decide +kernel
theorem d_law_644 : decode b_law 644 = .ok (.invokevirtual 75, 3) := by decide +kernel
theorem d_law_647 : decode b_law 647 = .ok (.aload_n 2, 1) := by decide +kernel
theorem d_law_648 : decode b_law 648 = .ok (.invokevirtual 78, 3) := by decide +kernel
theorem d_law_651 : decode b_law 651 = .ok (.if_icmp .eq 41, 3) := by decide +kernel
theorem d_law_654 : decode b_law 654 = .ok (.iconst 0, 1) := by decide +kernel
theorem d_law_655 : decode b_law 655 = .ok (.ireturn, 1) := by decide +kernel
theorem d_law_656 : decode b_law 656 = .ok (.aload_n 1, 1) := by decide +kernel
theorem d_law_657 : decode b_law 657 = .ok (.invokevirtual 79, 3) := by decide +kernel
theorem d_law_660 : decode b_law 660 = .ok (.aload_n 2, 1) := by decide +kernel
theorem d_law_661 : decode b_law 661 = .ok (.invokevirtual 82, 3) := by decide +kernel
theorem d_law_664 : decode b_law 664 = .ok (.if_icmp .eq 28, 3) := by decide +kernel
theorem d_law_667 : decode b_law 667 = .ok (.iconst 0, 1) := by decide +kernel
theorem d_law_668 : decode b_law 668 = .ok (.ireturn, 1) := by decide +kernel
theorem d_law_669 : decode b_law 669 = .ok (.aload_n 1, 1) := by decide +kernel
theorem d_law_670 : decode b_law 670 = .ok (.aload_n 0, 1) := by decide +kernel
theorem d_law_671 : decode b_law 671 = .ok (.iload_n 3, 1) := by decide +kernel
theorem d_law_672 : decode b_law 672 = .ok (.iconst 1, 1) := by decide +kernel
theorem d_law_673 : decode b_law 673 = .ok (.iadd, 1) := by decide +kernel
theorem d_law_674 : decode b_law 674 = .ok (.iaload, 1) := by decide +kernel
theorem d_law_675 : decode b_law 675 = .ok (.invokevirtual 83, 3) := by decide +kernel
theorem d_law_678 : decode b_law 678 = .ok (.aload_n 2, 1) := by decide +kernel
theorem d_law_679 : decode b_law 679 = .ok (.aload_n 0, 1) := by decide +kernel
theorem d_law_680 : decode b_law 680 = .ok (.iload_n 3, 1) := by decide +kernel
theorem d_law_681 : decode b_law 681 = .ok (.iconst 1, 1) := by decide +kernel
theorem d_law_682 : decode b_law 682 = .ok (.iadd, 1) := by decide +kernel
theorem d_law_683 : decode b_law 683 = .ok (.iaload, 1) := by decide +kernel
theorem d_law_684 : decode b_law 684 = .ok (.invokevirtual 86, 3) := by decide +kernel
theorem d_law_687 : decode b_law 687 = .ok (.if_icmp .eq 5, 3) := by decide +kernel
theorem d_law_690 : decode b_law 690 = .ok (.iconst 0, 1) := by decide +kernel
theorem d_law_691 : decode b_law 691 = .ok (.ireturn, 1) := by decide +kernel
theorem d_law_692 : decode b_law 692 = .ok (.iinc 3 7, 3) := by decide +kernel
theorem d_law_695 : decode b_law 695 = .ok (.goto (-677), 3) := by decide +kernel
theorem d_law_698 : decode b_law 698 = .ok (.iconst 1, 1) := by decide +kernel
theorem d_law_699 : decode b_law 699 = .ok (.ireturn, 1) := by decide +kernel
