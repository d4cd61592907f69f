theorem dX11_within_11 : decode cX11_within 11 = .ok (.getfield 24, 3) := by decide +kernel
theorem dX11_within_14 : decode cX11_within 14 = .ok (.aload_n 0, 1) := by decide +kernel
theorem dX11_within_15 : decode cX11_within 15 = .ok (.getfield 69, 3) := by decide +kernel
theorem dX11_within_18 : decode cX11_within 18 = .ok (.aload_n 0, 1) := by decide +kernel
theorem dX11_within_19 : decode cX11_within 19 = .ok (.getfield 49, 3) := by decide +kernel
theorem dX11_within_22 : decode cX11_within 22 = .ok (.lload_n 1, 1) := by decide +kernel
theorem dX11_within_23 : decode cX11_within 23 = .ok (.aload_n 0, 1) := by decide +kernel
theorem dX11_within_24 : decode cX11_within 24 = .ok (.getfield 69, 3) := by decide +kernel
theorem dX11_within_27 : decode cX11_within 27 = .ok (.invokevirtual 263, 3) := by decide +kernel
theorem dX1_rowCount_0 : decode cX1_rowCount 0 = .ok (.aload_n 0, 1) := by decide +kernel
theorem dX1_rowCount_1 : decode cX1_rowCount 1 = .ok (.getfield 33, 3) := by decide +kernel
theorem dX1_rowCount_4 : decode cX1_rowCount 4 = .ok (.ifCond .ne 7, 3) := by decide +kernel
theorem dX1_rowCount_7 : decode cX1_rowCount 7 = .ok (.iconst 0, 1) := by decide +kernel
theorem dX1_rowCount_8 : decode cX1_rowCount 8 = .ok (.goto 11, 3) := by decide +kernel
theorem dX1_rowCount_19 : decode cX1_rowCount 19 = .ok (.ireturn, 1) := by decide +kernel
theorem dX11_within_30 : decode cX11_within 30 = .ok (.invokevirtual 266, 3) := by decide +kernel
theorem dX7_countAhead_0 : decode cX7_countAhead 0 = .ok (.aload_n 1, 1) := by decide +kernel
theorem dX7_countAhead_1 : decode cX7_countAhead 1 = .ok (.getfield 73, 3) := by decide +kernel
theorem dX7_countAhead_4 : decode cX7_countAhead 4 = .ok (.ifCond .ne 5, 3) := by decide +kernel
theorem dX7_countAhead_7 : decode cX7_countAhead 7 = .ok (.iconst 0, 1) := by decide +kernel
theorem dX7_countAhead_8 : decode cX7_countAhead 8 = .ok (.ireturn, 1) := by decide +kernel
theorem dX11_within_33 : decode cX11_within 33 = .ok (.ireturn, 1) := by decide +kernel
theorem dX11_within_6 : decode cX11_within 6 = .ok (.iconst (-1), 1) := by decide +kernel
theorem dX11_within_7 : decode cX11_within 7 = .ok (.goto 26, 3) := by decide +kernel
theorem dL_law_668 : decode cL_law 668 = .ok (.aload_n 2, 1) := by decide +kernel
theorem dL_law_669 : decode cL_law 669 = .ok (.aload_n 0, 1) := by decide +kernel
theorem dL_law_670 : decode cL_law 670 = .ok (.iload_n 3, 1) := by decide +kernel
theorem dL_law_671 : decode cL_law 671 = .ok (.iconst 1, 1) := by decide +kernel
theorem dL_law_672 : decode cL_law 672 = .ok (.iadd, 1) := by decide +kernel
theorem dL_law_673 : decode cL_law 673 = .ok (.iaload, 1) := by decide +kernel
theorem dL_law_674 : decode cL_law 674 = .ok (.i2l, 1) := by decide +kernel
theorem dL_law_675 : decode cL_law 675 = .ok (.bipush 32, 2) := by decide +kernel
theorem dL_law_677 : decode cL_law 677 = .ok (.lshl, 1) := by decide +kernel
theorem dL_law_678 : decode cL_law 678 = .ok (.aload_n 0, 1) := by decide +kernel
theorem dL_law_679 : decode cL_law 679 = .ok (.iload_n 3, 1) := by decide +kernel
theorem dL_law_680 : decode cL_law 680 = .ok (.iconst 2, 1) := by decide +kernel
theorem dL_law_681 : decode cL_law 681 = .ok (.iadd, 1) := by decide +kernel
theorem dL_law_682 : decode cL_law 682 = .ok (.iaload, 1) := by decide +kernel
theorem dL_law_683 : decode cL_law 683 = .ok (.i2l, 1) := by decide +kernel
theorem dL_law_684 : decode cL_law 684 = .ok (.ldc2_w 78, 3) := by decide +kernel
theorem dL_law_687 : decode cL_law 687 = .ok (.land, 1) := by decide +kernel
theorem dL_law_688 : decode cL_law 688 = .ok (.lor, 1) := by decide +kernel
theorem dL_law_689 : decode cL_law 689 = .ok (.invokevirtual 84, 3) := by decide +kernel
theorem dX12_within_0 : decode cX12_within 0 = .ok (.lload_n 1, 1) := by decide +kernel
theorem dX12_within_1 : decode cX12_within 1 = .ok (.lconst 0, 1) := by decide +kernel
theorem dX12_within_2 : decode cX12_within 2 = .ok (.lcmp, 1) := by decide +kernel
theorem dX12_within_3 : decode cX12_within 3 = .ok (.ifCond .ge 5, 3) := by decide +kernel
theorem dX12_within_8 : decode cX12_within 8 = .ok (.iconst 0, 1) := by decide +kernel
theorem dX12_within_9 : decode cX12_within 9 = .ok (.istore_n 3, 1) := by decide +kernel
theorem dX12_within_10 : decode cX12_within 10 = .ok (.iconst 0, 1) := by decide +kernel
theorem dX12_within_11 : decode cX12_within 11 = .ok (.istore 4, 2) := by decide +kernel
theorem dX12_within_13 : decode cX12_within 13 = .ok (.iload 4, 2) := by decide +kernel
theorem dX12_within_15 : decode cX12_within 15 = .ok (.aload_n 0, 1) := by decide +kernel
theorem dX12_within_16 : decode cX12_within 16 = .ok (.invokevirtual 406, 3) := by decide +kernel
theorem dX12_within_19 : decode cX12_within 19 = .ok (.if_icmp .ge 23, 3) := by decide +kernel
theorem dX12_within_42 : decode cX12_within 42 = .ok (.iload_n 3, 1) := by decide +kernel
theorem dX12_within_43 : decode cX12_within 43 = .ok (.ireturn, 1) := by decide +kernel
theorem dX12_within_6 : decode cX12_within 6 = .ok (.iconst (-1), 1) := by decide +kernel
theorem dX12_within_7 : decode cX12_within 7 = .ok (.ireturn, 1) := by decide +kernel
theorem dL_law_692 : decode cL_law 692 = .ok (.if_icmp .eq 840, 3) := by decide +kernel
theorem dL_law_697 : decode cL_law 697 = .ok (.aload_n 1, 1) := by decide +kernel
theorem dL_law_698 : decode cL_law 698 = .ok (.aload_n 0, 1) := by decide +kernel
theorem dL_law_699 : decode cL_law 699 = .ok (.iload_n 3, 1) := by decide +kernel
theorem dL_law_700 : decode cL_law 700 = .ok (.iconst 1, 1) := by decide +kernel
theorem dL_law_701 : decode cL_law 701 = .ok (.iadd, 1) := by decide +kernel
theorem dL_law_702 : decode cL_law 702 = .ok (.iaload, 1) := by decide +kernel
theorem dL_law_703 : decode cL_law 703 = .ok (.invokevirtual 85, 3) := by decide +kernel
theorem dX11_cancel_0 : decode cX11_cancel 0 = .ok (.aload_n 0, 1) := by decide +kernel
theorem dX11_cancel_1 : decode cX11_cancel 1 = .ok (.getfield 69, 3) := by decide +kernel
theorem dX11_cancel_4 : decode cX11_cancel 4 = .ok (.iload_n 1, 1) := by decide +kernel
theorem dX11_cancel_5 : decode cX11_cancel 5 = .ok (.invokevirtual 172, 3) := by decide +kernel
theorem dX11_cancel_8 : decode cX11_cancel 8 = .ok (.ifCond .ne 6, 3) := by decide +kernel
theorem dX11_cancel_11 : decode cX11_cancel 11 = .ok (.ldc 175, 2) := by decide +kernel
theorem dX11_cancel_13 : decode cX11_cancel 13 = .ok (.ireturn, 1) := by decide +kernel
theorem dL_law_706 : decode cL_law 706 = .ok (.aload_n 2, 1) := by decide +kernel
theorem dL_law_707 : decode cL_law 707 = .ok (.aload_n 0, 1) := by decide +kernel
theorem dL_law_708 : decode cL_law 708 = .ok (.iload_n 3, 1) := by decide +kernel
theorem dL_law_709 : decode cL_law 709 = .ok (.iconst 1, 1) := by decide +kernel
theorem dL_law_710 : decode cL_law 710 = .ok (.iadd, 1) := by decide +kernel
theorem dL_law_711 : decode cL_law 711 = .ok (.iaload, 1) := by decide +kernel
theorem dL_law_712 : decode cL_law 712 = .ok (.invokevirtual 88, 3) := by decide +kernel
theorem dX12_cancel_0 : decode cX12_cancel 0 = .ok (.aload_n 0, 1) := by decide +kernel
theorem dX12_cancel_1 : decode cX12_cancel 1 = .ok (.iload_n 1, 1) := by decide +kernel
theorem dX12_cancel_2 : decode cX12_cancel 2 = .ok (.invokevirtual 361, 3) := by decide +kernel
theorem dX12_cancel_5 : decode cX12_cancel 5 = .ok (.ifCond .ne 7, 3) := by decide +kernel
theorem dX12_cancel_8 : decode cX12_cancel 8 = .ok (.ldc_w 364, 3) := by decide +kernel
theorem dX12_cancel_11 : decode cX12_cancel 11 = .ok (.ireturn, 1) := by decide +kernel
theorem dL_law_715 : decode cL_law 715 = .ok (.if_icmp .eq 817, 3) := by decide +kernel
theorem dL_law_720 : decode cL_law 720 = .ok (.aload_n 1, 1) := by decide +kernel
theorem dL_law_721 : decode cL_law 721 = .ok (.aload_n 0, 1) := by decide +kernel
theorem dL_law_722 : decode cL_law 722 = .ok (.iload_n 3, 1) := by decide +kernel
theorem dL_law_723 : decode cL_law 723 = .ok (.iconst 1, 1) := by decide +kernel
theorem dL_law_724 : decode cL_law 724 = .ok (.iadd, 1) := by decide +kernel
theorem dL_law_725 : decode cL_law 725 = .ok (.iaload, 1) := by decide +kernel
theorem dL_law_726 : decode cL_law 726 = .ok (.invokevirtual 89, 3) := by decide +kernel
theorem dX11_order_0 : decode cX11_order 0 = .ok (.aload_n 0, 1) := by decide +kernel
theorem dX11_order_1 : decode cX11_order 1 = .ok (.getfield 69, 3) := by decide +kernel
theorem dX11_order_4 : decode cX11_order 4 = .ok (.iload_n 1, 1) := by decide +kernel
theorem dX11_order_5 : decode cX11_order 5 = .ok (.invokevirtual 172, 3) := by decide +kernel
theorem dX11_order_8 : decode cX11_order 8 = .ok (.ifCond .ne 5, 3) := by decide +kernel
theorem dX11_order_11 : decode cX11_order 11 = .ok (.iconst (-1), 1) := by decide +kernel
theorem dX11_order_12 : decode cX11_order 12 = .ok (.ireturn, 1) := by decide +kernel
theorem dL_law_729 : decode cL_law 729 = .ok (.aload_n 2, 1) := by decide +kernel
theorem dL_law_730 : decode cL_law 730 = .ok (.aload_n 0, 1) := by decide +kernel
theorem dL_law_731 : decode cL_law 731 = .ok (.iload_n 3, 1) := by decide +kernel
theorem dL_law_732 : decode cL_law 732 = .ok (.iconst 1, 1) := by decide +kernel
theorem dL_law_733 : decode cL_law 733 = .ok (.iadd, 1) := by decide +kernel
theorem dL_law_734 : decode cL_law 734 = .ok (.iaload, 1) := by decide +kernel
theorem dL_law_735 : decode cL_law 735 = .ok (.invokevirtual 92, 3) := by decide +kernel
theorem dX12_order_0 : decode cX12_order 0 = .ok (.aload_n 0, 1) := by decide +kernel
theorem dX12_order_1 : decode cX12_order 1 = .ok (.iload_n 1, 1) := by decide +kernel
theorem dX12_order_2 : decode cX12_order 2 = .ok (.invokevirtual 361, 3) := by decide +kernel
theorem dX12_order_5 : decode cX12_order 5 = .ok (.ifCond .ne 5, 3) := by decide +kernel
theorem dX12_order_8 : decode cX12_order 8 = .ok (.iconst (-1), 1) := by decide +kernel
theorem dX12_order_9 : decode cX12_order 9 = .ok (.ireturn, 1) := by decide +kernel
theorem dL_law_738 : decode cL_law 738 = .ok (.if_icmp .eq 794, 3) := by decide +kernel
theorem dL_law_743 : decode cL_law 743 = .ok (.aload_n 1, 1) := by decide +kernel
theorem dL_law_744 : decode cL_law 744 = .ok (.invokevirtual 93, 3) := by decide +kernel
theorem dX11_left_0 : decode cX11_left 0 = .ok (.aload_n 0, 1) := by decide +kernel
theorem dX11_left_1 : decode cX11_left 1 = .ok (.getfield 69, 3) := by decide +kernel
theorem dX11_left_4 : decode cX11_left 4 = .ok (.getfield 136, 3) := by decide +kernel
theorem dX11_left_7 : decode cX11_left 7 = .ok (.ifCond .ne 7, 3) := by decide +kernel
theorem dX11_left_10 : decode cX11_left 10 = .ok (.ldc2_w 212, 3) := by decide +kernel
theorem dX11_left_13 : decode cX11_left 13 = .ok (.lreturn, 1) := by decide +kernel
theorem dL_law_747 : decode cL_law 747 = .ok (.aload_n 2, 1) := by decide +kernel
theorem dL_law_748 : decode cL_law 748 = .ok (.invokevirtual 96, 3) := by decide +kernel
theorem dX12_left_0 : decode cX12_left 0 = .ok (.aload_n 0, 1) := by decide +kernel
theorem dX12_left_1 : decode cX12_left 1 = .ok (.getfield 237, 3) := by decide +kernel
theorem dX12_left_4 : decode cX12_left 4 = .ok (.ifCond .ne 7, 3) := by decide +kernel
theorem dX12_left_7 : decode cX12_left 7 = .ok (.ldc2_w 384, 3) := by decide +kernel
theorem dX12_left_10 : decode cX12_left 10 = .ok (.lreturn, 1) := by decide +kernel
theorem dL_law_751 : decode cL_law 751 = .ok (.lcmp, 1) := by decide +kernel
theorem dL_law_752 : decode cL_law 752 = .ok (.ifCond .eq 780, 3) := by decide +kernel
theorem dL_law_757 : decode cL_law 757 = .ok (.aload_n 1, 1) := by decide +kernel
theorem dL_law_758 : decode cL_law 758 = .ok (.aload_n 0, 1) := by decide +kernel
theorem dL_law_759 : decode cL_law 759 = .ok (.iload_n 3, 1) := by decide +kernel
theorem dL_law_760 : decode cL_law 760 = .ok (.iconst 1, 1) := by decide +kernel
theorem dL_law_761 : decode cL_law 761 = .ok (.iadd, 1) := by decide +kernel
theorem dL_law_762 : decode cL_law 762 = .ok (.iaload, 1) := by decide +kernel
theorem dL_law_763 : decode cL_law 763 = .ok (.aload_n 0, 1) := by decide +kernel
theorem dL_law_764 : decode cL_law 764 = .ok (.iload_n 3, 1) := by decide +kernel
theorem dL_law_765 : decode cL_law 765 = .ok (.iconst 2, 1) := by decide +kernel
theorem dL_law_766 : decode cL_law 766 = .ok (.iadd, 1) := by decide +kernel
theorem dL_law_767 : decode cL_law 767 = .ok (.iaload, 1) := by decide +kernel
theorem dL_law_768 : decode cL_law 768 = .ok (.invokevirtual 97, 3) := by decide +kernel
theorem dX11_least_0 : decode cX11_least 0 = .ok (.aload_n 0, 1) := by decide +kernel
theorem dX11_least_1 : decode cX11_least 1 = .ok (.getfield 69, 3) := by decide +kernel
theorem dX11_least_4 : decode cX11_least 4 = .ok (.iload_n 1, 1) := by decide +kernel
theorem dX11_least_5 : decode cX11_least 5 = .ok (.invokevirtual 172, 3) := by decide +kernel
theorem dX11_least_8 : decode cX11_least 8 = .ok (.ifCond .eq 14, 3) := by decide +kernel
theorem dX11_least_22 : decode cX11_least 22 = .ok (.ldc2_w 212, 3) := by decide +kernel
theorem dX11_least_25 : decode cX11_least 25 = .ok (.lreturn, 1) := by decide +kernel
theorem dL_law_771 : decode cL_law 771 = .ok (.aload_n 2, 1) := by decide +kernel
theorem dL_law_772 : decode cL_law 772 = .ok (.aload_n 0, 1) := by decide +kernel
theorem dL_law_773 : decode cL_law 773 = .ok (.iload_n 3, 1) := by decide +kernel
theorem dL_law_774 : decode cL_law 774 = .ok (.iconst 1, 1) := by decide +kernel
theorem dL_law_775 : decode cL_law 775 = .ok (.iadd, 1) := by decide +kernel
theorem dL_law_776 : decode cL_law 776 = .ok (.iaload, 1) := by decide +kernel
theorem dL_law_777 : decode cL_law 777 = .ok (.aload_n 0, 1) := by decide +kernel
theorem dL_law_778 : decode cL_law 778 = .ok (.iload_n 3, 1) := by decide +kernel
theorem dL_law_779 : decode cL_law 779 = .ok (.iconst 2, 1) := by decide +kernel
theorem dL_law_780 : decode cL_law 780 = .ok (.iadd, 1) := by decide +kernel
theorem dL_law_781 : decode cL_law 781 = .ok (.iaload, 1) := by decide +kernel
theorem dL_law_782 : decode cL_law 782 = .ok (.invokevirtual 101, 3) := by decide +kernel
theorem dX12_least_0 : decode cX12_least 0 = .ok (.aload_n 0, 1) := by decide +kernel
theorem dX12_least_1 : decode cX12_least 1 = .ok (.iload_n 1, 1) := by decide +kernel
theorem dX12_least_2 : decode cX12_least 2 = .ok (.invokevirtual 361, 3) := by decide +kernel
theorem dX12_least_5 : decode cX12_least 5 = .ok (.ifCond .eq 11, 3) := by decide +kernel
theorem dX12_least_16 : decode cX12_least 16 = .ok (.ldc2_w 384, 3) := by decide +kernel
theorem dX12_least_19 : decode cX12_least 19 = .ok (.lreturn, 1) := by decide +kernel
theorem dL_law_785 : decode cL_law 785 = .ok (.lcmp, 1) := by decide +kernel
theorem dL_law_786 : decode cL_law 786 = .ok (.ifCond .eq 746, 3) := by decide +kernel
theorem dL_law_791 : decode cL_law 791 = .ok (.aload_n 1, 1) := by decide +kernel
theorem dL_law_792 : decode cL_law 792 = .ok (.aload_n 0, 1) := by decide +kernel
theorem dL_law_793 : decode cL_law 793 = .ok (.iload_n 3, 1) := by decide +kernel
theorem dL_law_794 : decode cL_law 794 = .ok (.iconst 1, 1) := by decide +kernel
theorem dL_law_795 : decode cL_law 795 = .ok (.iadd, 1) := by decide +kernel
theorem dL_law_796 : decode cL_law 796 = .ok (.iaload, 1) := by decide +kernel
theorem dL_law_797 : decode cL_law 797 = .ok (.aload_n 0, 1) := by decide +kernel
theorem dL_law_798 : decode cL_law 798 = .ok (.iload_n 3, 1) := by decide +kernel
theorem dL_law_799 : decode cL_law 799 = .ok (.iconst 2, 1) := by decide +kernel
theorem dL_law_800 : decode cL_law 800 = .ok (.iadd, 1) := by decide +kernel
theorem dL_law_801 : decode cL_law 801 = .ok (.iaload, 1) := by decide +kernel
theorem dL_law_802 : decode cL_law 802 = .ok (.invokevirtual 102, 3) := by decide +kernel
theorem dX11_share_0 : decode cX11_share 0 = .ok (.aload_n 0, 1) := by decide +kernel
theorem dX11_share_1 : decode cX11_share 1 = .ok (.getfield 69, 3) := by decide +kernel
theorem dX11_share_4 : decode cX11_share 4 = .ok (.iload_n 1, 1) := by decide +kernel
theorem dX11_share_5 : decode cX11_share 5 = .ok (.invokevirtual 172, 3) := by decide +kernel
theorem dX11_share_8 : decode cX11_share 8 = .ok (.ifCond .eq 14, 3) := by decide +kernel
theorem dX11_share_22 : decode cX11_share 22 = .ok (.iconst (-1), 1) := by decide +kernel
theorem dX11_share_23 : decode cX11_share 23 = .ok (.ireturn, 1) := by decide +kernel
theorem dL_law_805 : decode cL_law 805 = .ok (.aload_n 2, 1) := by decide +kernel
theorem dL_law_806 : decode cL_law 806 = .ok (.aload_n 0, 1) := by decide +kernel
theorem dL_law_807 : decode cL_law 807 = .ok (.iload_n 3, 1) := by decide +kernel
theorem dL_law_808 : decode cL_law 808 = .ok (.iconst 1, 1) := by decide +kernel
theorem dL_law_809 : decode cL_law 809 = .ok (.iadd, 1) := by decide +kernel
theorem dL_law_810 : decode cL_law 810 = .ok (.iaload, 1) := by decide +kernel
theorem dL_law_811 : decode cL_law 811 = .ok (.aload_n 0, 1) := by decide +kernel
theorem dL_law_812 : decode cL_law 812 = .ok (.iload_n 3, 1) := by decide +kernel
theorem dL_law_813 : decode cL_law 813 = .ok (.iconst 2, 1) := by decide +kernel
theorem dL_law_814 : decode cL_law 814 = .ok (.iadd, 1) := by decide +kernel
theorem dL_law_815 : decode cL_law 815 = .ok (.iaload, 1) := by decide +kernel
theorem dL_law_816 : decode cL_law 816 = .ok (.invokevirtual 105, 3) := by decide +kernel
theorem dX12_share_0 : decode cX12_share 0 = .ok (.aload_n 0, 1) := by decide +kernel
theorem dX12_share_1 : decode cX12_share 1 = .ok (.iload_n 1, 1) := by decide +kernel
theorem dX12_share_2 : decode cX12_share 2 = .ok (.invokevirtual 361, 3) := by decide +kernel
theorem dX12_share_5 : decode cX12_share 5 = .ok (.ifCond .eq 11, 3) := by decide +kernel
theorem dX12_share_16 : decode cX12_share 16 = .ok (.iconst (-1), 1) := by decide +kernel
theorem dX12_share_17 : decode cX12_share 17 = .ok (.ireturn, 1) := by decide +kernel
theorem dL_law_819 : decode cL_law 819 = .ok (.if_icmp .eq 713, 3) := by decide +kernel
theorem dL_law_824 : decode cL_law 824 = .ok (.aload_n 1, 1) := by decide +kernel
theorem dL_law_825 : decode cL_law 825 = .ok (.aload_n 0, 1) := by decide +kernel
theorem dL_law_826 : decode cL_law 826 = .ok (.iload_n 3, 1) := by decide +kernel
theorem dL_law_827 : decode cL_law 827 = .ok (.iconst 1, 1) := by decide +kernel
theorem dL_law_828 : decode cL_law 828 = .ok (.iadd, 1) := by decide +kernel
theorem dL_law_829 : decode cL_law 829 = .ok (.iaload, 1) := by decide +kernel
theorem dL_law_830 : decode cL_law 830 = .ok (.invokevirtual 106, 3) := by decide +kernel
theorem dX11_sure_0 : decode cX11_sure 0 = .ok (.aload_n 0, 1) := by decide +kernel
theorem dX11_sure_1 : decode cX11_sure 1 = .ok (.getfield 69, 3) := by decide +kernel
theorem dX11_sure_4 : decode cX11_sure 4 = .ok (.iload_n 1, 1) := by decide +kernel
theorem dX11_sure_5 : decode cX11_sure 5 = .ok (.invokevirtual 172, 3) := by decide +kernel
theorem dX11_sure_8 : decode cX11_sure 8 = .ok (.ifCond .eq 11, 3) := by decide +kernel
theorem dX11_sure_19 : decode cX11_sure 19 = .ok (.ldc2_w 212, 3) := by decide +kernel
theorem dX11_sure_22 : decode cX11_sure 22 = .ok (.lreturn, 1) := by decide +kernel
theorem dL_law_833 : decode cL_law 833 = .ok (.aload_n 2, 1) := by decide +kernel
theorem dL_law_834 : decode cL_law 834 = .ok (.aload_n 0, 1) := by decide +kernel
theorem dL_law_835 : decode cL_law 835 = .ok (.iload_n 3, 1) := by decide +kernel
theorem dL_law_836 : decode cL_law 836 = .ok (.iconst 1, 1) := by decide +kernel
theorem dL_law_837 : decode cL_law 837 = .ok (.iadd, 1) := by decide +kernel
theorem dL_law_838 : decode cL_law 838 = .ok (.iaload, 1) := by decide +kernel
theorem dL_law_839 : decode cL_law 839 = .ok (.invokevirtual 109, 3) := by decide +kernel
theorem dX12_sure_0 : decode cX12_sure 0 = .ok (.aload_n 0, 1) := by decide +kernel
theorem dX12_sure_1 : decode cX12_sure 1 = .ok (.iload_n 1, 1) := by decide +kernel
theorem dX12_sure_2 : decode cX12_sure 2 = .ok (.invokevirtual 361, 3) := by decide +kernel
theorem dX12_sure_5 : decode cX12_sure 5 = .ok (.ifCond .ne 7, 3) := by decide +kernel
theorem dX12_sure_8 : decode cX12_sure 8 = .ok (.ldc2_w 384, 3) := by decide +kernel
theorem dX12_sure_11 : decode cX12_sure 11 = .ok (.lreturn, 1) := by decide +kernel
theorem dL_law_842 : decode cL_law 842 = .ok (.lcmp, 1) := by decide +kernel
theorem dL_law_843 : decode cL_law 843 = .ok (.ifCond .eq 689, 3) := by decide +kernel
theorem dL_law_848 : decode cL_law 848 = .ok (.aload_n 1, 1) := by decide +kernel
theorem dL_law_849 : decode cL_law 849 = .ok (.aload_n 0, 1) := by decide +kernel
theorem dL_law_850 : decode cL_law 850 = .ok (.iload_n 3, 1) := by decide +kernel
theorem dL_law_851 : decode cL_law 851 = .ok (.iconst 1, 1) := by decide +kernel
theorem dL_law_852 : decode cL_law 852 = .ok (.iadd, 1) := by decide +kernel
theorem dL_law_853 : decode cL_law 853 = .ok (.iaload, 1) := by decide +kernel
theorem dL_law_854 : decode cL_law 854 = .ok (.invokevirtual 110, 3) := by decide +kernel
theorem dX11_lead_0 : decode cX11_lead 0 = .ok (.iload_n 1, 1) := by decide +kernel
theorem dX11_lead_1 : decode cX11_lead 1 = .ok (.iconst 1, 1) := by decide +kernel
theorem dX11_lead_2 : decode cX11_lead 2 = .ok (.if_icmp .lt 9, 3) := by decide +kernel
theorem dX11_lead_11 : decode cX11_lead 11 = .ok (.iconst (-1), 1) := by decide +kernel
theorem dX11_lead_12 : decode cX11_lead 12 = .ok (.goto 11, 3) := by decide +kernel
theorem dX11_lead_23 : decode cX11_lead 23 = .ok (.ireturn, 1) := by decide +kernel
theorem dX11_lead_5 : decode cX11_lead 5 = .ok (.iload_n 1, 1) := by decide +kernel
theorem dX11_lead_6 : decode cX11_lead 6 = .ok (.bipush 100, 2) := by decide +kernel
theorem dX11_lead_8 : decode cX11_lead 8 = .ok (.if_icmp .le 7, 3) := by decide +kernel
theorem dX11_lead_15 : decode cX11_lead 15 = .ok (.aload_n 0, 1) := by decide +kernel
theorem dX11_lead_16 : decode cX11_lead 16 = .ok (.getfield 76, 3) := by decide +kernel
theorem dX11_lead_19 : decode cX11_lead 19 = .ok (.iload_n 1, 1) := by decide +kernel
theorem dX11_lead_20 : decode cX11_lead 20 = .ok (.invokevirtual 296, 3) := by decide +kernel
theorem dX2_makeSteps_0 : decode cX2_makeSteps 0 = .ok (.iconst 0, 1) := by decide +kernel
theorem dX2_makeSteps_1 : decode cX2_makeSteps 1 = .ok (.istore_n 2, 1) := by decide +kernel
theorem dX2_makeSteps_2 : decode cX2_makeSteps 2 = .ok (.iload_n 2, 1) := by decide +kernel
theorem dX2_makeSteps_3 : decode cX2_makeSteps 3 = .ok (.iload_n 1, 1) := by decide +kernel
theorem dX2_makeSteps_4 : decode cX2_makeSteps 4 = .ok (.if_icmp .ge 16, 3) := by decide +kernel
theorem dX2_makeSteps_20 : decode cX2_makeSteps 20 = .ok (.iload_n 2, 1) := by decide +kernel
theorem dX2_makeSteps_21 : decode cX2_makeSteps 21 = .ok (.ireturn, 1) := by decide +kernel
theorem dX2_makeSteps_7 : decode cX2_makeSteps 7 = .ok (.aload_n 0, 1) := by decide +kernel
theorem dX2_makeSteps_8 : decode cX2_makeSteps 8 = .ok (.invokevirtual 60, 3) := by decide +kernel
theorem dX2_makeStep_0 : decode cX2_makeStep 0 = .ok (.aload_n 0, 1) := by decide +kernel
theorem dX2_makeStep_1 : decode cX2_makeStep 1 = .ok (.getfield 39, 3) := by decide +kernel
theorem dX2_makeStep_4 : decode cX2_makeStep 4 = .ok (.sipush 200, 3) := by decide +kernel
theorem dX2_makeStep_7 : decode cX2_makeStep 7 = .ok (.if_icmp .lt 5, 3) := by decide +kernel
theorem dX2_makeStep_12 : decode cX2_makeStep 12 = .ok (.iconst 0, 1) := by decide +kernel
theorem dX2_makeStep_13 : decode cX2_makeStep 13 = .ok (.istore_n 1, 1) := by decide +kernel
theorem dX2_makeStep_14 : decode cX2_makeStep 14 = .ok (.iload_n 1, 1) := by decide +kernel
theorem dX2_makeStep_15 : decode cX2_makeStep 15 = .ok (.aload_n 0, 1) := by decide +kernel
theorem dX2_makeStep_16 : decode cX2_makeStep 16 = .ok (.getfield 26, 3) := by decide +kernel
theorem dX2_makeStep_19 : decode cX2_makeStep 19 = .ok (.if_icmp .ge 71, 3) := by decide +kernel
theorem dX2_makeStep_90 : decode cX2_makeStep 90 = .ok (.iconst 0, 1) := by decide +kernel
theorem dX2_makeStep_91 : decode cX2_makeStep 91 = .ok (.ireturn, 1) := by decide +kernel
theorem dX2_makeSteps_11 : decode cX2_makeSteps 11 = .ok (.ifCond .eq 9, 3) := by decide +kernel
theorem dL_law_857 : decode cL_law 857 = .ok (.aload_n 2, 1) := by decide +kernel
theorem dL_law_858 : decode cL_law 858 = .ok (.aload_n 0, 1) := by decide +kernel
theorem dL_law_859 : decode cL_law 859 = .ok (.iload_n 3, 1) := by decide +kernel
theorem dL_law_860 : decode cL_law 860 = .ok (.iconst 1, 1) := by decide +kernel
theorem dL_law_861 : decode cL_law 861 = .ok (.iadd, 1) := by decide +kernel
theorem dL_law_862 : decode cL_law 862 = .ok (.iaload, 1) := by decide +kernel
theorem dL_law_863 : decode cL_law 863 = .ok (.invokevirtual 113, 3) := by decide +kernel
theorem dX12_lead_0 : decode cX12_lead 0 = .ok (.iload_n 1, 1) := by decide +kernel
theorem dX12_lead_1 : decode cX12_lead 1 = .ok (.i2l, 1) := by decide +kernel
theorem dX12_lead_2 : decode cX12_lead 2 = .ok (.lconst 1, 1) := by decide +kernel
theorem dX12_lead_3 : decode cX12_lead 3 = .ok (.ldc2_w 440, 3) := by decide +kernel
theorem dX12_lead_6 : decode cX12_lead 6 = .ok (.invokestatic 191, 3) := by decide +kernel
theorem dX12_lead_9 : decode cX12_lead 9 = .ok (.ifCond .ne 5, 3) := by decide +kernel
theorem dX12_lead_14 : decode cX12_lead 14 = .ok (.iconst 0, 1) := by decide +kernel
theorem dX12_lead_15 : decode cX12_lead 15 = .ok (.istore_n 2, 1) := by decide +kernel
theorem dX12_lead_16 : decode cX12_lead 16 = .ok (.iload_n 2, 1) := by decide +kernel
theorem dX12_lead_17 : decode cX12_lead 17 = .ok (.iload_n 1, 1) := by decide +kernel
theorem dX12_lead_18 : decode cX12_lead 18 = .ok (.if_icmp .ge 40, 3) := by decide +kernel
theorem dX12_lead_58 : decode cX12_lead 58 = .ok (.iload_n 2, 1) := by decide +kernel
theorem dX12_lead_59 : decode cX12_lead 59 = .ok (.ireturn, 1) := by decide +kernel
theorem dX12_lead_21 : decode cX12_lead 21 = .ok (.aload_n 0, 1) := by decide +kernel
theorem dX12_lead_22 : decode cX12_lead 22 = .ok (.invokevirtual 442, 3) := by decide +kernel
theorem dX12_isStep_0 : decode cX12_isStep 0 = .ok (.aload_n 0, 1) := by decide +kernel
theorem dX12_isStep_1 : decode cX12_isStep 1 = .ok (.getfield 349, 3) := by decide +kernel
theorem dX12_isStep_4 : decode cX12_isStep 4 = .ok (.sipush 200, 3) := by decide +kernel
theorem dX12_isStep_7 : decode cX12_isStep 7 = .ok (.if_icmp .ne 5, 3) := by decide +kernel
theorem dX12_isStep_12 : decode cX12_isStep 12 = .ok (.iconst 0, 1) := by decide +kernel
theorem dX12_isStep_13 : decode cX12_isStep 13 = .ok (.istore_n 1, 1) := by decide +kernel
theorem dX12_isStep_14 : decode cX12_isStep 14 = .ok (.iload_n 1, 1) := by decide +kernel
theorem dX12_isStep_15 : decode cX12_isStep 15 = .ok (.aload_n 0, 1) := by decide +kernel
theorem dX12_isStep_16 : decode cX12_isStep 16 = .ok (.getfield 237, 3) := by decide +kernel
theorem dX12_isStep_19 : decode cX12_isStep 19 = .ok (.if_icmp .ge 123, 3) := by decide +kernel
theorem dX12_isStep_142 : decode cX12_isStep 142 = .ok (.iconst 0, 1) := by decide +kernel
theorem dX12_isStep_143 : decode cX12_isStep 143 = .ok (.ireturn, 1) := by decide +kernel
theorem dX12_lead_25 : decode cX12_lead 25 = .ok (.ifCond .eq 33, 3) := by decide +kernel
theorem dX12_lead_12 : decode cX12_lead 12 = .ok (.iconst (-1), 1) := by decide +kernel
theorem dX12_lead_13 : decode cX12_lead 13 = .ok (.ireturn, 1) := by decide +kernel
theorem dL_law_866 : decode cL_law 866 = .ok (.if_icmp .eq 666, 3) := by decide +kernel
theorem dL_law_871 : decode cL_law 871 = .ok (.aload_n 1, 1) := by decide +kernel
theorem dL_law_872 : decode cL_law 872 = .ok (.invokevirtual 114, 3) := by decide +kernel
theorem dX11_undo_0 : decode cX11_undo 0 = .ok (.aload_n 0, 1) := by decide +kernel
theorem dX11_undo_1 : decode cX11_undo 1 = .ok (.getfield 76, 3) := by decide +kernel
theorem dX11_undo_4 : decode cX11_undo 4 = .ok (.invokevirtual 299, 3) := by decide +kernel
theorem dX2_undoStep_0 : decode cX2_undoStep 0 = .ok (.aload_n 0, 1) := by decide +kernel
theorem dX2_undoStep_1 : decode cX2_undoStep 1 = .ok (.getfield 33, 3) := by decide +kernel
theorem dX2_undoStep_4 : decode cX2_undoStep 4 = .ok (.ifCond .ne 5, 3) := by decide +kernel
theorem dX2_undoStep_7 : decode cX2_undoStep 7 = .ok (.iconst 0, 1) := by decide +kernel
theorem dX2_undoStep_8 : decode cX2_undoStep 8 = .ok (.ireturn, 1) := by decide +kernel
theorem dX11_undo_7 : decode cX11_undo 7 = .ok (.ireturn, 1) := by decide +kernel
theorem dL_law_875 : decode cL_law 875 = .ok (.aload_n 2, 1) := by decide +kernel
theorem dL_law_876 : decode cL_law 876 = .ok (.invokevirtual 117, 3) := by decide +kernel
theorem dX12_undo_0 : decode cX12_undo 0 = .ok (.aload_n 0, 1) := by decide +kernel
theorem dX12_undo_1 : decode cX12_undo 1 = .ok (.getfield 352, 3) := by decide +kernel
theorem dX12_undo_4 : decode cX12_undo 4 = .ok (.ifCond .ne 5, 3) := by decide +kernel
theorem dX12_undo_7 : decode cX12_undo 7 = .ok (.iconst 0, 1) := by decide +kernel
theorem dX12_undo_8 : decode cX12_undo 8 = .ok (.ireturn, 1) := by decide +kernel
theorem dL_law_879 : decode cL_law 879 = .ok (.if_icmp .eq 653, 3) := by decide +kernel
theorem dL_law_884 : decode cL_law 884 = .ok (.aload_n 1, 1) := by decide +kernel
theorem dL_law_885 : decode cL_law 885 = .ok (.invokevirtual 118, 3) := by decide +kernel
theorem dX11_redo_0 : decode cX11_redo 0 = .ok (.aload_n 0, 1) := by decide +kernel
theorem dX11_redo_1 : decode cX11_redo 1 = .ok (.getfield 76, 3) := by decide +kernel
theorem dX11_redo_4 : decode cX11_redo 4 = .ok (.invokevirtual 302, 3) := by decide +kernel
theorem dX2_redoStep_0 : decode cX2_redoStep 0 = .ok (.aload_n 0, 1) := by decide +kernel
theorem dX2_redoStep_1 : decode cX2_redoStep 1 = .ok (.getfield 36, 3) := by decide +kernel
theorem dX2_redoStep_4 : decode cX2_redoStep 4 = .ok (.ifCond .ne 5, 3) := by decide +kernel
theorem dX2_redoStep_7 : decode cX2_redoStep 7 = .ok (.iconst 0, 1) := by decide +kernel
theorem dX2_redoStep_8 : decode cX2_redoStep 8 = .ok (.ireturn, 1) := by decide +kernel
theorem dX11_redo_7 : decode cX11_redo 7 = .ok (.ireturn, 1) := by decide +kernel
theorem dL_law_888 : decode cL_law 888 = .ok (.aload_n 2, 1) := by decide +kernel
theorem dL_law_889 : decode cL_law 889 = .ok (.invokevirtual 121, 3) := by decide +kernel
theorem dX12_redo_0 : decode cX12_redo 0 = .ok (.aload_n 0, 1) := by decide +kernel
theorem dX12_redo_1 : decode cX12_redo 1 = .ok (.getfield 355, 3) := by decide +kernel
theorem dX12_redo_4 : decode cX12_redo 4 = .ok (.ifCond .ne 5, 3) := by decide +kernel
theorem dX12_redo_7 : decode cX12_redo 7 = .ok (.iconst 0, 1) := by decide +kernel
theorem dX12_redo_8 : decode cX12_redo 8 = .ok (.ireturn, 1) := by decide +kernel
theorem dL_law_892 : decode cL_law 892 = .ok (.if_icmp .eq 640, 3) := by decide +kernel
theorem dL_law_897 : decode cL_law 897 = .ok (.aload_n 1, 1) := by decide +kernel
theorem dL_law_898 : decode cL_law 898 = .ok (.aload_n 0, 1) := by decide +kernel
theorem dL_law_899 : decode cL_law 899 = .ok (.iload_n 3, 1) := by decide +kernel
theorem dL_law_900 : decode cL_law 900 = .ok (.iconst 1, 1) := by decide +kernel
theorem dL_law_901 : decode cL_law 901 = .ok (.iadd, 1) := by decide +kernel
theorem dL_law_902 : decode cL_law 902 = .ok (.iaload, 1) := by decide +kernel
theorem dL_law_903 : decode cL_law 903 = .ok (.aload_n 0, 1) := by decide +kernel
theorem dL_law_904 : decode cL_law 904 = .ok (.iload_n 3, 1) := by decide +kernel
theorem dL_law_905 : decode cL_law 905 = .ok (.iconst 2, 1) := by decide +kernel
theorem dL_law_906 : decode cL_law 906 = .ok (.iadd, 1) := by decide +kernel
theorem dL_law_907 : decode cL_law 907 = .ok (.iaload, 1) := by decide +kernel
theorem dL_law_908 : decode cL_law 908 = .ok (.invokevirtual 122, 3) := by decide +kernel
theorem dX11_leader_0 : decode cX11_leader 0 = .ok (.aload_n 0, 1) := by decide +kernel
theorem dX11_leader_1 : decode cX11_leader 1 = .ok (.getfield 69, 3) := by decide +kernel
theorem dX11_leader_4 : decode cX11_leader 4 = .ok (.iload_n 1, 1) := by decide +kernel
theorem dX11_leader_5 : decode cX11_leader 5 = .ok (.invokevirtual 172, 3) := by decide +kernel
theorem dX11_leader_8 : decode cX11_leader 8 = .ok (.ifCond .eq 26, 3) := by decide +kernel
theorem dX11_leader_34 : decode cX11_leader 34 = .ok (.ldc2_w 308, 3) := by decide +kernel
theorem dX11_leader_37 : decode cX11_leader 37 = .ok (.lreturn, 1) := by decide +kernel
theorem dL_law_911 : decode cL_law 911 = .ok (.aload_n 2, 1) := by decide +kernel
theorem dL_law_912 : decode cL_law 912 = .ok (.aload_n 0, 1) := by decide +kernel
theorem dL_law_913 : decode cL_law 913 = .ok (.iload_n 3, 1) := by decide +kernel
theorem dL_law_914 : decode cL_law 914 = .ok (.iconst 1, 1) := by decide +kernel
theorem dL_law_915 : decode cL_law 915 = .ok (.iadd, 1) := by decide +kernel
theorem dL_law_916 : decode cL_law 916 = .ok (.iaload, 1) := by decide +kernel
theorem dL_law_917 : decode cL_law 917 = .ok (.aload_n 0, 1) := by decide +kernel
theorem dL_law_918 : decode cL_law 918 = .ok (.iload_n 3, 1) := by decide +kernel
theorem dL_law_919 : decode cL_law 919 = .ok (.iconst 2, 1) := by decide +kernel
theorem dL_law_920 : decode cL_law 920 = .ok (.iadd, 1) := by decide +kernel
theorem dL_law_921 : decode cL_law 921 = .ok (.iaload, 1) := by decide +kernel
theorem dL_law_922 : decode cL_law 922 = .ok (.invokevirtual 125, 3) := by decide +kernel
theorem dX12_leader_0 : decode cX12_leader 0 = .ok (.aload_n 0, 1) := by decide +kernel
theorem dX12_leader_1 : decode cX12_leader 1 = .ok (.iload_n 1, 1) := by decide +kernel
theorem dX12_leader_2 : decode cX12_leader 2 = .ok (.invokevirtual 361, 3) := by decide +kernel
theorem dX12_leader_5 : decode cX12_leader 5 = .ok (.ifCond .eq 24, 3) := by decide +kernel
theorem dX12_leader_29 : decode cX12_leader 29 = .ok (.ldc2_w 445, 3) := by decide +kernel
theorem dX12_leader_32 : decode cX12_leader 32 = .ok (.lreturn, 1) := by decide +kernel
theorem dL_law_925 : decode cL_law 925 = .ok (.lcmp, 1) := by decide +kernel
theorem dL_law_926 : decode cL_law 926 = .ok (.ifCond .eq 606, 3) := by decide +kernel
theorem dL_law_931 : decode cL_law 931 = .ok (.aload_n 1, 1) := by decide +kernel
theorem dL_law_932 : decode cL_law 932 = .ok (.aload_n 0, 1) := by decide +kernel
theorem dL_law_933 : decode cL_law 933 = .ok (.iload_n 3, 1) := by decide +kernel
theorem dL_law_934 : decode cL_law 934 = .ok (.iconst 1, 1) := by decide +kernel
