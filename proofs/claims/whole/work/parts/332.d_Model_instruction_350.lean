theorem d_Model_instruction_695 : decode b_Model_instruction 695 = .ok (.iconst 0, 1) := by decide +kernel
theorem d_Model_instruction_696 : decode b_Model_instruction 696 = .ok (.invokevirtual 243, 3) := by decide +kernel
theorem d_Model_instruction_699 : decode b_Model_instruction 699 = .ok (.invokevirtual 228, 3) := by decide +kernel
theorem d_Model_instruction_702 : decode b_Model_instruction 702 = .ok (.ireturn, 1) := by decide +kernel
theorem d_Model_instruction_703 : decode b_Model_instruction 703 = .ok (.aload_n 0, 1) := by decide +kernel
theorem d_Model_instruction_704 : decode b_Model_instruction 704 = .ok (.iconst 1, 1) := by decide +kernel
theorem d_Model_instruction_705 : decode b_Model_instruction 705 = .ok (.aload_n 0, 1) := by decide +kernel
theorem d_Model_instruction_706 : decode b_Model_instruction 706 = .ok (.iconst 1, 1) := by decide +kernel
theorem d_Model_instruction_707 : decode b_Model_instruction 707 = .ok (.iconst 5, 1) := by decide +kernel
theorem d_Model_instruction_708 : decode b_Model_instruction 708 = .ok (.invokevirtual 246, 3) := by decide +kernel
theorem d_Model_instruction_711 : decode b_Model_instruction 711 = .ok (.ifCond .eq 11, 3) := by decide +kernel
theorem d_Model_instruction_714 : decode b_Model_instruction 714 = .ok (.aload_n 0, 1) := by decide +kernel
theorem d_Model_instruction_715 : decode b_Model_instruction 715 = .ok (.iconst 0, 1) := by decide +kernel
theorem d_Model_instruction_716 : decode b_Model_instruction 716 = .ok (.invokevirtual 253, 3) := by decide +kernel
theorem d_Model_instruction_719 : decode b_Model_instruction 719 = .ok (.goto 4, 3) := by decide +kernel
theorem d_Model_instruction_722 : decode b_Model_instruction 722 = .ok (.iconst 4, 1) := by decide +kernel
theorem d_Model_instruction_723 : decode b_Model_instruction 723 = .ok (.invokevirtual 228, 3) := by decide +kernel
theorem d_Model_instruction_726 : decode b_Model_instruction 726 = .ok (.ireturn, 1) := by decide +kernel
theorem d_Model_instruction_727 : decode b_Model_instruction 727 = .ok (.aload_n 0, 1) := by decide +kernel
theorem d_Model_instruction_728 : decode b_Model_instruction 728 = .ok (.iconst 1, 1) := by decide +kernel
theorem d_Model_instruction_729 : decode b_Model_instruction 729 = .ok (.aload_n 0, 1) := by decide +kernel
theorem d_Model_instruction_730 : decode b_Model_instruction 730 = .ok (.invokevirtual 274, 3) := by decide +kernel
theorem d_Model_instruction_733 : decode b_Model_instruction 733 = .ok (.invokevirtual 228, 3) := by decide +kernel
theorem d_Model_instruction_736 : decode b_Model_instruction 736 = .ok (.ireturn, 1) := by decide +kernel
theorem d_Model_instruction_737 : decode b_Model_instruction 737 = .ok (.aload_n 0, 1) := by decide +kernel
theorem d_Model_instruction_738 : decode b_Model_instruction 738 = .ok (.iload_n 1, 1) := by decide +kernel
theorem d_Model_instruction_739 : decode b_Model_instruction 739 = .ok (.iload_n 2, 1) := by decide +kernel
theorem d_Model_instruction_740 : decode b_Model_instruction 740 = .ok (.iload_n 3, 1) := by decide +kernel
theorem d_Model_instruction_741 : decode b_Model_instruction 741 = .ok (.invokevirtual 277, 3) := by decide +kernel
theorem d_Model_instruction_744 : decode b_Model_instruction 744 = .ok (.ireturn, 1) := by decide +kernel
