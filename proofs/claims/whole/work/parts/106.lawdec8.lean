theorem d_law_661 : decode code 661 = .ok (.iload 4, 2) := by decide +kernel
theorem d_law_663 : decode code 663 = .ok (.iconst 1, 1) := by decide +kernel
theorem d_law_664 : decode code 664 = .ok (.iadd, 1) := by decide +kernel
theorem d_law_665 : decode code 665 = .ok (.iaload, 1) := by decide +kernel
theorem d_law_666 : decode code 666 = .ok (.invokevirtual 60, 3) := by decide +kernel
theorem d_law_669 : decode code 669 = .ok (.if_icmp .eq 97, 3) := by decide +kernel
theorem d_law_672 : decode code 672 = .ok (.iconst 0, 1) := by decide +kernel
theorem d_law_673 : decode code 673 = .ok (.ireturn, 1) := by decide +kernel
theorem d_law_674 : decode code 674 = .ok (.aload_n 1, 1) := by decide +kernel
theorem d_law_675 : decode code 675 = .ok (.aload_n 0, 1) := by decide +kernel
theorem d_law_676 : decode code 676 = .ok (.iload 4, 2) := by decide +kernel
theorem d_law_678 : decode code 678 = .ok (.iconst 1, 1) := by decide +kernel
theorem d_law_679 : decode code 679 = .ok (.iadd, 1) := by decide +kernel
theorem d_law_680 : decode code 680 = .ok (.iaload, 1) := by decide +kernel
theorem d_law_681 : decode code 681 = .ok (.ifCond .eq 7, 3) := by decide +kernel
theorem d_law_684 : decode code 684 = .ok (.iconst 1, 1) := by decide +kernel
theorem d_law_685 : decode code 685 = .ok (.goto 4, 3) := by decide +kernel
theorem d_law_688 : decode code 688 = .ok (.iconst 0, 1) := by decide +kernel
theorem d_law_689 : decode code 689 = .ok (.invokevirtual 61, 3) := by decide +kernel
theorem d_law_692 : decode code 692 = .ok (.aload_n 2, 1) := by decide +kernel
theorem d_law_693 : decode code 693 = .ok (.aload_n 0, 1) := by decide +kernel
theorem d_law_694 : decode code 694 = .ok (.iload 4, 2) := by decide +kernel
theorem d_law_696 : decode code 696 = .ok (.iconst 1, 1) := by decide +kernel
theorem d_law_697 : decode code 697 = .ok (.iadd, 1) := by decide +kernel
theorem d_law_698 : decode code 698 = .ok (.iaload, 1) := by decide +kernel
theorem d_law_699 : decode code 699 = .ok (.ifCond .eq 7, 3) := by decide +kernel
theorem d_law_702 : decode code 702 = .ok (.iconst 1, 1) := by decide +kernel
theorem d_law_703 : decode code 703 = .ok (.goto 4, 3) := by decide +kernel
theorem d_law_706 : decode code 706 = .ok (.iconst 0, 1) := by decide +kernel
theorem d_law_707 : decode code 707 = .ok (.invokevirtual 64, 3) := by decide +kernel
theorem d_law_710 : decode code 710 = .ok (.lcmp, 1) := by decide +kernel
theorem d_law_711 : decode code 711 = .ok (.ifCond .eq 55, 3) := by decide +kernel
theorem d_law_714 : decode code 714 = .ok (.iconst 0, 1) := by decide +kernel
theorem d_law_715 : decode code 715 = .ok (.ireturn, 1) := by decide +kernel
theorem d_law_716 : decode code 716 = .ok (.aload_n 1, 1) := by decide +kernel
theorem d_law_717 : decode code 717 = .ok (.aload_n 0, 1) := by decide +kernel
theorem d_law_718 : decode code 718 = .ok (.iload 4, 2) := by decide +kernel
theorem d_law_720 : decode code 720 = .ok (.iconst 1, 1) := by decide +kernel
theorem d_law_721 : decode code 721 = .ok (.iadd, 1) := by decide +kernel
theorem d_law_722 : decode code 722 = .ok (.iaload, 1) := by decide +kernel
theorem d_law_723 : decode code 723 = .ok (.invokevirtual 65, 3) := by decide +kernel
theorem d_law_726 : decode code 726 = .ok (.aload_n 2, 1) := by decide +kernel
theorem d_law_727 : decode code 727 = .ok (.aload_n 0, 1) := by decide +kernel
theorem d_law_728 : decode code 728 = .ok (.iload 4, 2) := by decide +kernel
theorem d_law_730 : decode code 730 = .ok (.iconst 1, 1) := by decide +kernel
theorem d_law_731 : decode code 731 = .ok (.iadd, 1) := by decide +kernel
theorem d_law_732 : decode code 732 = .ok (.iaload, 1) := by decide +kernel
theorem d_law_733 : decode code 733 = .ok (.invokevirtual 68, 3) := by decide +kernel
theorem d_law_736 : decode code 736 = .ok (.if_icmp .eq 30, 3) := by decide +kernel
theorem d_law_739 : decode code 739 = .ok (.iconst 0, 1) := by decide +kernel
theorem d_law_740 : decode code 740 = .ok (.ireturn, 1) := by decide +kernel
theorem d_law_741 : decode code 741 = .ok (.aload_n 1, 1) := by decide +kernel
theorem d_law_742 : decode code 742 = .ok (.aload_n 0, 1) := by decide +kernel
theorem d_law_743 : decode code 743 = .ok (.iload 4, 2) := by decide +kernel
theorem d_law_745 : decode code 745 = .ok (.iconst 1, 1) := by decide +kernel
theorem d_law_746 : decode code 746 = .ok (.iadd, 1) := by decide +kernel
theorem d_law_747 : decode code 747 = .ok (.iaload, 1) := by decide +kernel
theorem d_law_748 : decode code 748 = .ok (.invokevirtual 69, 3) := by decide +kernel
theorem d_law_751 : decode code 751 = .ok (.aload_n 2, 1) := by decide +kernel
theorem d_law_752 : decode code 752 = .ok (.aload_n 0, 1) := by decide +kernel
