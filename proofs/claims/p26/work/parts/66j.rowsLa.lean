theorem dL_act_672 : decode cL_act 672 = .ok (.istore 10, 2) := by decide +kernel
theorem dL_act_674 : decode cL_act 674 = .ok (.aload_n 0, 1) := by decide +kernel
theorem dL_act_675 : decode cL_act 675 = .ok (.iload 6, 2) := by decide +kernel
theorem dL_act_677 : decode cL_act 677 = .ok (.iload 7, 2) := by decide +kernel
theorem dL_act_679 : decode cL_act 679 = .ok (.iload_n 3, 1) := by decide +kernel
theorem dL_act_680 : decode cL_act 680 = .ok (.iload 9, 2) := by decide +kernel
theorem dL_act_682 : decode cL_act 682 = .ok (.iconst 1, 1) := by decide +kernel
theorem dL_act_683 : decode cL_act 683 = .ok (.invokevirtual 16, 3) := by decide +kernel
theorem dL_act_686 : decode cL_act 686 = .ok (.istore 11, 2) := by decide +kernel
theorem dL_act_688 : decode cL_act 688 = .ok (.aload_n 0, 1) := by decide +kernel
theorem dL_act_689 : decode cL_act 689 = .ok (.iload 6, 2) := by decide +kernel
theorem dL_act_691 : decode cL_act 691 = .ok (.iload 7, 2) := by decide +kernel
theorem dL_act_693 : decode cL_act 693 = .ok (.iload_n 3, 1) := by decide +kernel
theorem dL_act_694 : decode cL_act 694 = .ok (.iload 9, 2) := by decide +kernel
theorem dL_act_696 : decode cL_act 696 = .ok (.iconst 4, 1) := by decide +kernel
theorem dL_act_697 : decode cL_act 697 = .ok (.invokevirtual 16, 3) := by decide +kernel
theorem dL_act_700 : decode cL_act 700 = .ok (.istore 12, 2) := by decide +kernel
theorem dL_act_702 : decode cL_act 702 = .ok (.aload_n 0, 1) := by decide +kernel
theorem dL_act_703 : decode cL_act 703 = .ok (.iconst 5, 1) := by decide +kernel
theorem dL_act_704 : decode cL_act 704 = .ok (.invokevirtual 31, 3) := by decide +kernel
theorem dL_act_707 : decode cL_act 707 = .ok (.istore 13, 2) := by decide +kernel
theorem dL_act_709 : decode cL_act 709 = .ok (.aload_n 0, 1) := by decide +kernel
theorem dL_act_710 : decode cL_act 710 = .ok (.bipush 6, 2) := by decide +kernel
theorem dL_act_712 : decode cL_act 712 = .ok (.invokevirtual 31, 3) := by decide +kernel
theorem dL_act_715 : decode cL_act 715 = .ok (.istore 14, 2) := by decide +kernel
theorem dL_act_717 : decode cL_act 717 = .ok (.aload_n 0, 1) := by decide +kernel
theorem dL_act_718 : decode cL_act 718 = .ok (.iload_n 3, 1) := by decide +kernel
theorem dL_act_719 : decode cL_act 719 = .ok (.iload 9, 2) := by decide +kernel
theorem dL_act_721 : decode cL_act 721 = .ok (.invokevirtual 73, 3) := by decide +kernel
theorem dL_act_724 : decode cL_act 724 = .ok (.istore 15, 2) := by decide +kernel
theorem dL_act_726 : decode cL_act 726 = .ok (.iload 10, 2) := by decide +kernel
theorem dL_act_728 : decode cL_act 728 = .ok (.ifCond .ge 38, 3) := by decide +kernel
theorem dL_act_731 : decode cL_act 731 = .ok (.iload 15, 2) := by decide +kernel
theorem dL_act_733 : decode cL_act 733 = .ok (.iconst (-1), 1) := by decide +kernel
theorem dL_act_734 : decode cL_act 734 = .ok (.if_icmp .ne 30, 3) := by decide +kernel
theorem dL_act_737 : decode cL_act 737 = .ok (.aload_n 0, 1) := by decide +kernel
theorem dL_act_738 : decode cL_act 738 = .ok (.bipush 7, 2) := by decide +kernel
theorem dL_act_740 : decode cL_act 740 = .ok (.invokevirtual 31, 3) := by decide +kernel
theorem dL_act_743 : decode cL_act 743 = .ok (.iload 8, 2) := by decide +kernel
theorem dL_act_745 : decode cL_act 745 = .ok (.iconst 1, 1) := by decide +kernel
theorem dL_act_746 : decode cL_act 746 = .ok (.iadd, 1) := by decide +kernel
theorem dL_act_747 : decode cL_act 747 = .ok (.if_icmp .ne 17, 3) := by decide +kernel
theorem dL_act_750 : decode cL_act 750 = .ok (.aload_n 0, 1) := by decide +kernel
theorem dL_act_751 : decode cL_act 751 = .ok (.iconst 5, 1) := by decide +kernel
theorem dL_act_752 : decode cL_act 752 = .ok (.invokevirtual 31, 3) := by decide +kernel
theorem dL_act_755 : decode cL_act 755 = .ok (.iload 13, 2) := by decide +kernel
theorem dL_act_757 : decode cL_act 757 = .ok (.if_icmp .ne 7, 3) := by decide +kernel
theorem dL_act_760 : decode cL_act 760 = .ok (.iconst 1, 1) := by decide +kernel
theorem dL_act_761 : decode cL_act 761 = .ok (.goto 4, 3) := by decide +kernel
theorem dL_act_764 : decode cL_act 764 = .ok (.iconst 0, 1) := by decide +kernel
theorem dL_act_765 : decode cL_act 765 = .ok (.ireturn, 1) := by decide +kernel
theorem dL_act_766 : decode cL_act 766 = .ok (.iload 15, 2) := by decide +kernel
theorem dL_act_768 : decode cL_act 768 = .ok (.bipush 100, 2) := by decide +kernel
theorem dL_act_770 : decode cL_act 770 = .ok (.iload 11, 2) := by decide +kernel
theorem dL_act_772 : decode cL_act 772 = .ok (.imul, 1) := by decide +kernel
theorem dL_act_773 : decode cL_act 773 = .ok (.iload 10, 2) := by decide +kernel
theorem dL_act_775 : decode cL_act 775 = .ok (.iadd, 1) := by decide +kernel
theorem dL_act_776 : decode cL_act 776 = .ok (.if_icmp .ne 53, 3) := by decide +kernel
theorem dL_act_779 : decode cL_act 779 = .ok (.aload_n 0, 1) := by decide +kernel
theorem dL_act_780 : decode cL_act 780 = .ok (.iconst 2, 1) := by decide +kernel
theorem dL_act_781 : decode cL_act 781 = .ok (.invokevirtual 31, 3) := by decide +kernel
theorem dL_act_784 : decode cL_act 784 = .ok (.iload 10, 2) := by decide +kernel
theorem dL_act_786 : decode cL_act 786 = .ok (.if_icmp .ne 43, 3) := by decide +kernel
theorem dL_act_789 : decode cL_act 789 = .ok (.aload_n 0, 1) := by decide +kernel
theorem dL_act_790 : decode cL_act 790 = .ok (.iconst 3, 1) := by decide +kernel
theorem dL_act_791 : decode cL_act 791 = .ok (.invokevirtual 31, 3) := by decide +kernel
theorem dL_act_794 : decode cL_act 794 = .ok (.iload 11, 2) := by decide +kernel
theorem dL_act_796 : decode cL_act 796 = .ok (.if_icmp .ne 33, 3) := by decide +kernel
theorem dL_act_799 : decode cL_act 799 = .ok (.aload_n 0, 1) := by decide +kernel
theorem dL_act_800 : decode cL_act 800 = .ok (.iconst 5, 1) := by decide +kernel
theorem dL_act_801 : decode cL_act 801 = .ok (.invokevirtual 31, 3) := by decide +kernel
theorem dL_act_804 : decode cL_act 804 = .ok (.iload 13, 2) := by decide +kernel
theorem dL_act_806 : decode cL_act 806 = .ok (.iconst 1, 1) := by decide +kernel
theorem dL_act_807 : decode cL_act 807 = .ok (.iadd, 1) := by decide +kernel
theorem dL_act_808 : decode cL_act 808 = .ok (.if_icmp .ne 21, 3) := by decide +kernel
theorem dL_act_811 : decode cL_act 811 = .ok (.aload_n 0, 1) := by decide +kernel
theorem dL_act_812 : decode cL_act 812 = .ok (.bipush 6, 2) := by decide +kernel
theorem dL_act_814 : decode cL_act 814 = .ok (.invokevirtual 31, 3) := by decide +kernel
theorem dL_act_817 : decode cL_act 817 = .ok (.iload 14, 2) := by decide +kernel
theorem dL_act_819 : decode cL_act 819 = .ok (.iload 12, 2) := by decide +kernel
theorem dL_act_821 : decode cL_act 821 = .ok (.iadd, 1) := by decide +kernel
theorem dL_act_822 : decode cL_act 822 = .ok (.if_icmp .ne 7, 3) := by decide +kernel
theorem dL_act_825 : decode cL_act 825 = .ok (.iconst 1, 1) := by decide +kernel
theorem dL_act_826 : decode cL_act 826 = .ok (.goto 4, 3) := by decide +kernel
theorem dL_act_829 : decode cL_act 829 = .ok (.iconst 0, 1) := by decide +kernel
theorem dL_act_830 : decode cL_act 830 = .ok (.ireturn, 1) := by decide +kernel
