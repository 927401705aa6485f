theorem dL_isStep_680 : decode cL_isStep 680 = .ok (.invokestatic 23, 3) := by decide +kernel
theorem dL_isStep_683 : decode cL_isStep 683 = .ok (.invokevirtual 59, 3) := by decide +kernel
theorem dL_isStep_686 : decode cL_isStep 686 = .ok (.if_icmp .ne 7, 3) := by decide +kernel
theorem dL_isStep_689 : decode cL_isStep 689 = .ok (.iconst 1, 1) := by decide +kernel
theorem dL_isStep_690 : decode cL_isStep 690 = .ok (.goto 4, 3) := by decide +kernel
theorem dL_isStep_693 : decode cL_isStep 693 = .ok (.iconst 0, 1) := by decide +kernel
theorem dL_isStep_694 : decode cL_isStep 694 = .ok (.ireturn, 1) := by decide +kernel
theorem dL_isStep_695 : decode cL_isStep 695 = .ok (.iload_n 2, 1) := by decide +kernel
theorem dL_isStep_696 : decode cL_isStep 696 = .ok (.bipush 18, 2) := by decide +kernel
theorem dL_isStep_698 : decode cL_isStep 698 = .ok (.invokestatic 23, 3) := by decide +kernel
theorem dL_isStep_701 : decode cL_isStep 701 = .ok (.bipush 11, 2) := by decide +kernel
theorem dL_isStep_703 : decode cL_isStep 703 = .ok (.if_icmp .ge 7, 3) := by decide +kernel
theorem dL_isStep_706 : decode cL_isStep 706 = .ok (.iconst 4, 1) := by decide +kernel
theorem dL_isStep_707 : decode cL_isStep 707 = .ok (.goto 4, 3) := by decide +kernel
theorem dL_isStep_710 : decode cL_isStep 710 = .ok (.iconst 1, 1) := by decide +kernel
theorem dL_isStep_711 : decode cL_isStep 711 = .ok (.istore 6, 2) := by decide +kernel
theorem dL_isStep_713 : decode cL_isStep 713 = .ok (.aload_n 1, 1) := by decide +kernel
theorem dL_isStep_714 : decode cL_isStep 714 = .ok (.invokevirtual 38, 3) := by decide +kernel
theorem dL_isStep_717 : decode cL_isStep 717 = .ok (.ifCond .lt 20, 3) := by decide +kernel
theorem dL_isStep_720 : decode cL_isStep 720 = .ok (.aload_n 1, 1) := by decide +kernel
theorem dL_isStep_721 : decode cL_isStep 721 = .ok (.bipush 53, 2) := by decide +kernel
theorem dL_isStep_723 : decode cL_isStep 723 = .ok (.iload 5, 2) := by decide +kernel
theorem dL_isStep_725 : decode cL_isStep 725 = .ok (.isub, 1) := by decide +kernel
theorem dL_isStep_726 : decode cL_isStep 726 = .ok (.i2l, 1) := by decide +kernel
theorem dL_isStep_727 : decode cL_isStep 727 = .ok (.invokevirtual 9, 3) := by decide +kernel
theorem dL_isStep_730 : decode cL_isStep 730 = .ok (.ifCond .le 7, 3) := by decide +kernel
theorem dL_isStep_733 : decode cL_isStep 733 = .ok (.iconst 1, 1) := by decide +kernel
theorem dL_isStep_734 : decode cL_isStep 734 = .ok (.goto 4, 3) := by decide +kernel
theorem dL_isStep_737 : decode cL_isStep 737 = .ok (.iconst 0, 1) := by decide +kernel
theorem dL_isStep_738 : decode cL_isStep 738 = .ok (.istore 7, 2) := by decide +kernel
theorem dL_isStep_740 : decode cL_isStep 740 = .ok (.aload_n 0, 1) := by decide +kernel
theorem dL_isStep_741 : decode cL_isStep 741 = .ok (.invokestatic 62, 3) := by decide +kernel
theorem dL_isStep_744 : decode cL_isStep 744 = .ok (.istore 8, 2) := by decide +kernel
theorem dL_isStep_746 : decode cL_isStep 746 = .ok (.iconst 0, 1) := by decide +kernel
theorem dL_isStep_747 : decode cL_isStep 747 = .ok (.istore 9, 2) := by decide +kernel
theorem dL_isStep_749 : decode cL_isStep 749 = .ok (.iload 9, 2) := by decide +kernel
theorem dL_isStep_751 : decode cL_isStep 751 = .ok (.iload 6, 2) := by decide +kernel
theorem dL_isStep_753 : decode cL_isStep 753 = .ok (.if_icmp .ge 111, 3) := by decide +kernel
theorem dL_isStep_756 : decode cL_isStep 756 = .ok (.iload 7, 2) := by decide +kernel
theorem dL_isStep_758 : decode cL_isStep 758 = .ok (.ifCond .eq 106, 3) := by decide +kernel
theorem dL_isStep_761 : decode cL_isStep 761 = .ok (.iload_n 3, 1) := by decide +kernel
theorem dL_isStep_762 : decode cL_isStep 762 = .ok (.iconst 2, 1) := by decide +kernel
theorem dL_isStep_763 : decode cL_isStep 763 = .ok (.iload 9, 2) := by decide +kernel
theorem dL_isStep_765 : decode cL_isStep 765 = .ok (.iadd, 1) := by decide +kernel
theorem dL_isStep_766 : decode cL_isStep 766 = .ok (.ishr, 1) := by decide +kernel
theorem dL_isStep_767 : decode cL_isStep 767 = .ok (.bipush 11, 2) := by decide +kernel
theorem dL_isStep_769 : decode cL_isStep 769 = .ok (.invokestatic 23, 3) := by decide +kernel
theorem dL_isStep_772 : decode cL_isStep 772 = .ok (.ifCond .ne 7, 3) := by decide +kernel
theorem dL_isStep_775 : decode cL_isStep 775 = .ok (.iconst 2, 1) := by decide +kernel
theorem dL_isStep_776 : decode cL_isStep 776 = .ok (.goto 29, 3) := by decide +kernel
theorem dL_isStep_779 : decode cL_isStep 779 = .ok (.iload 6, 2) := by decide +kernel
theorem dL_isStep_781 : decode cL_isStep 781 = .ok (.iconst 1, 1) := by decide +kernel
theorem dL_isStep_782 : decode cL_isStep 782 = .ok (.if_icmp .ne 13, 3) := by decide +kernel
theorem dL_isStep_785 : decode cL_isStep 785 = .ok (.iload_n 3, 1) := by decide +kernel
theorem dL_isStep_786 : decode cL_isStep 786 = .ok (.iconst 5, 1) := by decide +kernel
theorem dL_isStep_787 : decode cL_isStep 787 = .ok (.ishr, 1) := by decide +kernel
theorem dL_isStep_788 : decode cL_isStep 788 = .ok (.iconst 2, 1) := by decide +kernel
theorem dL_isStep_789 : decode cL_isStep 789 = .ok (.invokestatic 23, 3) := by decide +kernel
theorem dL_isStep_792 : decode cL_isStep 792 = .ok (.goto 13, 3) := by decide +kernel
theorem dL_isStep_795 : decode cL_isStep 795 = .ok (.iload 9, 2) := by decide +kernel
theorem dL_isStep_797 : decode cL_isStep 797 = .ok (.iload_n 3, 1) := by decide +kernel
theorem dL_isStep_798 : decode cL_isStep 798 = .ok (.iconst 2, 1) := by decide +kernel
theorem dL_isStep_799 : decode cL_isStep 799 = .ok (.invokestatic 23, 3) := by decide +kernel
theorem dL_isStep_802 : decode cL_isStep 802 = .ok (.iadd, 1) := by decide +kernel
theorem dL_isStep_803 : decode cL_isStep 803 = .ok (.iconst 2, 1) := by decide +kernel
theorem dL_isStep_804 : decode cL_isStep 804 = .ok (.irem, 1) := by decide +kernel
theorem dL_isStep_805 : decode cL_isStep 805 = .ok (.istore 10, 2) := by decide +kernel
theorem dL_isStep_807 : decode cL_isStep 807 = .ok (.aload_n 0, 1) := by decide +kernel
theorem dL_isStep_808 : decode cL_isStep 808 = .ok (.iload 5, 2) := by decide +kernel
theorem dL_isStep_810 : decode cL_isStep 810 = .ok (.iload 10, 2) := by decide +kernel
theorem dL_isStep_812 : decode cL_isStep 812 = .ok (.invokestatic 66, 3) := by decide +kernel
theorem dL_isStep_815 : decode cL_isStep 815 = .ok (.ifCond .eq 40, 3) := by decide +kernel
theorem dL_isStep_818 : decode cL_isStep 818 = .ok (.aload_n 1, 1) := by decide +kernel
theorem dL_isStep_819 : decode cL_isStep 819 = .ok (.iload 10, 2) := by decide +kernel
theorem dL_isStep_821 : decode cL_isStep 821 = .ok (.ifCond .ne 9, 3) := by decide +kernel
theorem dL_isStep_824 : decode cL_isStep 824 = .ok (.ldc2_w 70, 3) := by decide +kernel
theorem dL_isStep_827 : decode cL_isStep 827 = .ok (.goto 18, 3) := by decide +kernel
theorem dL_isStep_830 : decode cL_isStep 830 = .ok (.iload 10, 2) := by decide +kernel
theorem dL_isStep_832 : decode cL_isStep 832 = .ok (.iconst 1, 1) := by decide +kernel
theorem dL_isStep_833 : decode cL_isStep 833 = .ok (.if_icmp .ne 9, 3) := by decide +kernel
theorem dL_isStep_836 : decode cL_isStep 836 = .ok (.ldc2_w 72, 3) := by decide +kernel
theorem dL_isStep_839 : decode cL_isStep 839 = .ok (.goto 6, 3) := by decide +kernel
theorem dL_isStep_842 : decode cL_isStep 842 = .ok (.ldc2_w 74, 3) := by decide +kernel
theorem dL_isStep_845 : decode cL_isStep 845 = .ok (.invokevirtual 9, 3) := by decide +kernel
theorem dL_isStep_848 : decode cL_isStep 848 = .ok (.ifCond .le 7, 3) := by decide +kernel
