theorem d_Model_instruction_579 : decode b_Model_instruction 579 = .ok (.ifCond .eq 7, 3) := by decide +kernel
theorem d_Model_instruction_582 : decode b_Model_instruction 582 = .ok (.iconst 5, 1) := by decide +kernel
theorem d_Model_instruction_583 : decode b_Model_instruction 583 = .ok (.goto 4, 3) := by decide +kernel
theorem d_Model_instruction_586 : decode b_Model_instruction 586 = .ok (.iconst 4, 1) := by decide +kernel
theorem d_Model_instruction_587 : decode b_Model_instruction 587 = .ok (.invokevirtual 228, 3) := by decide +kernel
theorem d_Model_instruction_590 : decode b_Model_instruction 590 = .ok (.ireturn, 1) := by decide +kernel
theorem d_Model_instruction_591 : decode b_Model_instruction 591 = .ok (.aload_n 0, 1) := by decide +kernel
theorem d_Model_instruction_592 : decode b_Model_instruction 592 = .ok (.iconst 3, 1) := by decide +kernel
theorem d_Model_instruction_593 : decode b_Model_instruction 593 = .ok (.aload_n 0, 1) := by decide +kernel
theorem d_Model_instruction_594 : decode b_Model_instruction 594 = .ok (.iconst 2, 1) := by decide +kernel
theorem d_Model_instruction_595 : decode b_Model_instruction 595 = .ok (.invokevirtual 215, 3) := by decide +kernel
theorem d_Model_instruction_598 : decode b_Model_instruction 598 = .ok (.ifCond .lt 26, 3) := by decide +kernel
theorem d_Model_instruction_601 : decode b_Model_instruction 601 = .ok (.aload_n 0, 1) := by decide +kernel
theorem d_Model_instruction_602 : decode b_Model_instruction 602 = .ok (.iconst 2, 1) := by decide +kernel
theorem d_Model_instruction_603 : decode b_Model_instruction 603 = .ok (.invokevirtual 215, 3) := by decide +kernel
theorem d_Model_instruction_606 : decode b_Model_instruction 606 = .ok (.sipush 4095, 3) := by decide +kernel
theorem d_Model_instruction_609 : decode b_Model_instruction 609 = .ok (.if_icmp .gt 15, 3) := by decide +kernel
theorem d_Model_instruction_612 : decode b_Model_instruction 612 = .ok (.aload_n 0, 1) := by decide +kernel
theorem d_Model_instruction_613 : decode b_Model_instruction 613 = .ok (.invokevirtual 218, 3) := by decide +kernel
theorem d_Model_instruction_616 : decode b_Model_instruction 616 = .ok (.aload_n 0, 1) := by decide +kernel
theorem d_Model_instruction_617 : decode b_Model_instruction 617 = .ok (.iconst 2, 1) := by decide +kernel
theorem d_Model_instruction_618 : decode b_Model_instruction 618 = .ok (.invokevirtual 215, 3) := by decide +kernel
theorem d_Model_instruction_621 : decode b_Model_instruction 621 = .ok (.if_icmp .ge 7, 3) := by decide +kernel
theorem d_Model_instruction_624 : decode b_Model_instruction 624 = .ok (.iconst 4, 1) := by decide +kernel
theorem d_Model_instruction_625 : decode b_Model_instruction 625 = .ok (.goto 14, 3) := by decide +kernel
theorem d_Model_instruction_628 : decode b_Model_instruction 628 = .ok (.aload_n 0, 1) := by decide +kernel
theorem d_Model_instruction_629 : decode b_Model_instruction 629 = .ok (.iconst 4, 1) := by decide +kernel
theorem d_Model_instruction_630 : decode b_Model_instruction 630 = .ok (.aload_n 0, 1) := by decide +kernel
theorem d_Model_instruction_631 : decode b_Model_instruction 631 = .ok (.iconst 2, 1) := by decide +kernel
theorem d_Model_instruction_632 : decode b_Model_instruction 632 = .ok (.invokevirtual 215, 3) := by decide +kernel
theorem d_Model_instruction_635 : decode b_Model_instruction 635 = .ok (.iload_n 3, 1) := by decide +kernel
theorem d_Model_instruction_636 : decode b_Model_instruction 636 = .ok (.invokevirtual 243, 3) := by decide +kernel
theorem d_Model_instruction_639 : decode b_Model_instruction 639 = .ok (.invokevirtual 228, 3) := by decide +kernel
theorem d_Model_instruction_642 : decode b_Model_instruction 642 = .ok (.ireturn, 1) := by decide +kernel
theorem d_Model_instruction_643 : decode b_Model_instruction 643 = .ok (.aload_n 0, 1) := by decide +kernel
theorem d_Model_instruction_644 : decode b_Model_instruction 644 = .ok (.iconst 2, 1) := by decide +kernel
theorem d_Model_instruction_645 : decode b_Model_instruction 645 = .ok (.aload_n 0, 1) := by decide +kernel
theorem d_Model_instruction_646 : decode b_Model_instruction 646 = .ok (.iload_n 3, 1) := by decide +kernel
theorem d_Model_instruction_647 : decode b_Model_instruction 647 = .ok (.invokevirtual 259, 3) := by decide +kernel
theorem d_Model_instruction_650 : decode b_Model_instruction 650 = .ok (.invokevirtual 228, 3) := by decide +kernel
theorem d_Model_instruction_653 : decode b_Model_instruction 653 = .ok (.ireturn, 1) := by decide +kernel
theorem d_Model_instruction_654 : decode b_Model_instruction 654 = .ok (.aload_n 0, 1) := by decide +kernel
theorem d_Model_instruction_655 : decode b_Model_instruction 655 = .ok (.invokevirtual 262, 3) := by decide +kernel
theorem d_Model_instruction_658 : decode b_Model_instruction 658 = .ok (.ireturn, 1) := by decide +kernel
theorem d_Model_instruction_659 : decode b_Model_instruction 659 = .ok (.aload_n 0, 1) := by decide +kernel
theorem d_Model_instruction_660 : decode b_Model_instruction 660 = .ok (.invokevirtual 265, 3) := by decide +kernel
theorem d_Model_instruction_663 : decode b_Model_instruction 663 = .ok (.ireturn, 1) := by decide +kernel
theorem d_Model_instruction_664 : decode b_Model_instruction 664 = .ok (.aload_n 0, 1) := by decide +kernel
theorem d_Model_instruction_665 : decode b_Model_instruction 665 = .ok (.invokevirtual 268, 3) := by decide +kernel
theorem d_Model_instruction_668 : decode b_Model_instruction 668 = .ok (.ireturn, 1) := by decide +kernel
theorem d_Model_instruction_669 : decode b_Model_instruction 669 = .ok (.aload_n 0, 1) := by decide +kernel
theorem d_Model_instruction_670 : decode b_Model_instruction 670 = .ok (.iload_n 3, 1) := by decide +kernel
theorem d_Model_instruction_671 : decode b_Model_instruction 671 = .ok (.putfield 185, 3) := by decide +kernel
theorem d_Model_instruction_674 : decode b_Model_instruction 674 = .ok (.iconst 5, 1) := by decide +kernel
theorem d_Model_instruction_675 : decode b_Model_instruction 675 = .ok (.ireturn, 1) := by decide +kernel
theorem d_Model_instruction_676 : decode b_Model_instruction 676 = .ok (.aload_n 0, 1) := by decide +kernel
theorem d_Model_instruction_677 : decode b_Model_instruction 677 = .ok (.iload_n 1, 1) := by decide +kernel
theorem d_Model_instruction_678 : decode b_Model_instruction 678 = .ok (.iload_n 3, 1) := by decide +kernel
theorem d_Model_instruction_679 : decode b_Model_instruction 679 = .ok (.invokevirtual 271, 3) := by decide +kernel
theorem d_Model_instruction_682 : decode b_Model_instruction 682 = .ok (.ireturn, 1) := by decide +kernel
theorem d_Model_instruction_683 : decode b_Model_instruction 683 = .ok (.aload_n 0, 1) := by decide +kernel
theorem d_Model_instruction_684 : decode b_Model_instruction 684 = .ok (.iload_n 1, 1) := by decide +kernel
theorem d_Model_instruction_685 : decode b_Model_instruction 685 = .ok (.iload_n 3, 1) := by decide +kernel
theorem d_Model_instruction_686 : decode b_Model_instruction 686 = .ok (.invokevirtual 271, 3) := by decide +kernel
theorem d_Model_instruction_689 : decode b_Model_instruction 689 = .ok (.ireturn, 1) := by decide +kernel
theorem d_Model_instruction_690 : decode b_Model_instruction 690 = .ok (.aload_n 0, 1) := by decide +kernel
theorem d_Model_instruction_691 : decode b_Model_instruction 691 = .ok (.iconst 1, 1) := by decide +kernel
theorem d_Model_instruction_692 : decode b_Model_instruction 692 = .ok (.aload_n 0, 1) := by decide +kernel
theorem d_Model_instruction_693 : decode b_Model_instruction 693 = .ok (.iconst 5, 1) := by decide +kernel
theorem d_Model_instruction_694 : decode b_Model_instruction 694 = .ok (.iconst 1, 1) := by decide +kernel
