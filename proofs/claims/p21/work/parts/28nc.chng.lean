theorem dL_changes_625 : decode cL_changes 625 = .ok (.invokestatic 88, 3) := by decide +kernel
theorem dL_changes_628 : decode cL_changes 628 = .ok (.lload 15, 2) := by decide +kernel
theorem dL_changes_630 : decode cL_changes 630 = .ok (.lcmp, 1) := by decide +kernel
theorem dL_changes_631 : decode cL_changes 631 = .ok (.ifCond .ne 7, 3) := by decide +kernel
theorem dL_changes_634 : decode cL_changes 634 = .ok (.iconst 1, 1) := by decide +kernel
theorem dL_changes_635 : decode cL_changes 635 = .ok (.goto 4, 3) := by decide +kernel
theorem dL_changes_638 : decode cL_changes 638 = .ok (.iconst 0, 1) := by decide +kernel
theorem dL_changes_639 : decode cL_changes 639 = .ok (.ireturn, 1) := by decide +kernel
theorem dL_changes_640 : decode cL_changes 640 = .ok (.iload 9, 2) := by decide +kernel
theorem dL_changes_642 : decode cL_changes 642 = .ok (.bipush 14, 2) := by decide +kernel
theorem dL_changes_644 : decode cL_changes 644 = .ok (.if_icmp .ge 186, 3) := by decide +kernel
theorem dL_changes_647 : decode cL_changes 647 = .ok (.iload_n 2, 1) := by decide +kernel
theorem dL_changes_648 : decode cL_changes 648 = .ok (.ifCond .eq 17, 3) := by decide +kernel
theorem dL_changes_651 : decode cL_changes 651 = .ok (.iload_n 1, 1) := by decide +kernel
theorem dL_changes_652 : decode cL_changes 652 = .ok (.bipush 7, 2) := by decide +kernel
theorem dL_changes_654 : decode cL_changes 654 = .ok (.ishr, 1) := by decide +kernel
theorem dL_changes_655 : decode cL_changes 655 = .ok (.bipush 34, 2) := by decide +kernel
theorem dL_changes_657 : decode cL_changes 657 = .ok (.invokestatic 92, 3) := by decide +kernel
theorem dL_changes_660 : decode cL_changes 660 = .ok (.iconst 1, 1) := by decide +kernel
theorem dL_changes_661 : decode cL_changes 661 = .ok (.isub, 1) := by decide +kernel
theorem dL_changes_662 : decode cL_changes 662 = .ok (.goto 12, 3) := by decide +kernel
theorem dL_changes_665 : decode cL_changes 665 = .ok (.iload_n 1, 1) := by decide +kernel
theorem dL_changes_666 : decode cL_changes 666 = .ok (.bipush 7, 2) := by decide +kernel
theorem dL_changes_668 : decode cL_changes 668 = .ok (.ishr, 1) := by decide +kernel
theorem dL_changes_669 : decode cL_changes 669 = .ok (.bipush 7, 2) := by decide +kernel
theorem dL_changes_671 : decode cL_changes 671 = .ok (.invokestatic 92, 3) := by decide +kernel
theorem dL_changes_674 : decode cL_changes 674 = .ok (.istore 10, 2) := by decide +kernel
theorem dL_changes_676 : decode cL_changes 676 = .ok (.iload_n 2, 1) := by decide +kernel
theorem dL_changes_677 : decode cL_changes 677 = .ok (.ifCond .eq 17, 3) := by decide +kernel
theorem dL_changes_680 : decode cL_changes 680 = .ok (.iload_n 1, 1) := by decide +kernel
theorem dL_changes_681 : decode cL_changes 681 = .ok (.bipush 9, 2) := by decide +kernel
theorem dL_changes_683 : decode cL_changes 683 = .ok (.ishr, 1) := by decide +kernel
theorem dL_changes_684 : decode cL_changes 684 = .ok (.bipush 34, 2) := by decide +kernel
theorem dL_changes_686 : decode cL_changes 686 = .ok (.invokestatic 92, 3) := by decide +kernel
theorem dL_changes_689 : decode cL_changes 689 = .ok (.iconst 1, 1) := by decide +kernel
theorem dL_changes_690 : decode cL_changes 690 = .ok (.isub, 1) := by decide +kernel
theorem dL_changes_691 : decode cL_changes 691 = .ok (.goto 12, 3) := by decide +kernel
theorem dL_changes_694 : decode cL_changes 694 = .ok (.iload_n 1, 1) := by decide +kernel
theorem dL_changes_695 : decode cL_changes 695 = .ok (.bipush 9, 2) := by decide +kernel
theorem dL_changes_697 : decode cL_changes 697 = .ok (.ishr, 1) := by decide +kernel
theorem dL_changes_698 : decode cL_changes 698 = .ok (.bipush 7, 2) := by decide +kernel
theorem dL_changes_700 : decode cL_changes 700 = .ok (.invokestatic 92, 3) := by decide +kernel
theorem dL_changes_703 : decode cL_changes 703 = .ok (.istore 11, 2) := by decide +kernel
theorem dL_changes_705 : decode cL_changes 705 = .ok (.aload_n 0, 1) := by decide +kernel
theorem dL_changes_706 : decode cL_changes 706 = .ok (.iconst 3, 1) := by decide +kernel
theorem dL_changes_707 : decode cL_changes 707 = .ok (.iload 10, 2) := by decide +kernel
theorem dL_changes_709 : decode cL_changes 709 = .ok (.iload 11, 2) := by decide +kernel
theorem dL_changes_711 : decode cL_changes 711 = .ok (.iconst 0, 1) := by decide +kernel
theorem dL_changes_712 : decode cL_changes 712 = .ok (.iconst 0, 1) := by decide +kernel
theorem dL_changes_713 : decode cL_changes 713 = .ok (.invokestatic 85, 3) := by decide +kernel
theorem dL_changes_716 : decode cL_changes 716 = .ok (.istore 12, 2) := by decide +kernel
theorem dL_changes_718 : decode cL_changes 718 = .ok (.iload 10, 2) := by decide +kernel
theorem dL_changes_720 : decode cL_changes 720 = .ok (.ifCond .lt 22, 3) := by decide +kernel
theorem dL_changes_723 : decode cL_changes 723 = .ok (.iload 10, 2) := by decide +kernel
theorem dL_changes_725 : decode cL_changes 725 = .ok (.bipush 31, 2) := by decide +kernel
theorem dL_changes_727 : decode cL_changes 727 = .ok (.if_icmp .gt 15, 3) := by decide +kernel
theorem dL_changes_730 : decode cL_changes 730 = .ok (.iload 11, 2) := by decide +kernel
theorem dL_changes_732 : decode cL_changes 732 = .ok (.ifCond .lt 10, 3) := by decide +kernel
theorem dL_changes_735 : decode cL_changes 735 = .ok (.iload 11, 2) := by decide +kernel
theorem dL_changes_737 : decode cL_changes 737 = .ok (.bipush 31, 2) := by decide +kernel
theorem dL_changes_739 : decode cL_changes 739 = .ok (.if_icmp .le 25, 3) := by decide +kernel
theorem dL_changes_742 : decode cL_changes 742 = .ok (.iload 12, 2) := by decide +kernel
theorem dL_changes_744 : decode cL_changes 744 = .ok (.bipush (-111), 2) := by decide +kernel
theorem dL_changes_746 : decode cL_changes 746 = .ok (.if_icmp .ne 16, 3) := by decide +kernel
theorem dL_changes_749 : decode cL_changes 749 = .ok (.aload_n 0, 1) := by decide +kernel
theorem dL_changes_750 : decode cL_changes 750 = .ok (.invokestatic 88, 3) := by decide +kernel
theorem dL_changes_753 : decode cL_changes 753 = .ok (.lload_n 3, 1) := by decide +kernel
theorem dL_changes_754 : decode cL_changes 754 = .ok (.lcmp, 1) := by decide +kernel
theorem dL_changes_755 : decode cL_changes 755 = .ok (.ifCond .ne 7, 3) := by decide +kernel
theorem dL_changes_758 : decode cL_changes 758 = .ok (.iconst 1, 1) := by decide +kernel
theorem dL_changes_759 : decode cL_changes 759 = .ok (.goto 4, 3) := by decide +kernel
theorem dL_changes_762 : decode cL_changes 762 = .ok (.iconst 0, 1) := by decide +kernel
theorem dL_changes_763 : decode cL_changes 763 = .ok (.ireturn, 1) := by decide +kernel
theorem dL_changes_764 : decode cL_changes 764 = .ok (.iload 12, 2) := by decide +kernel
theorem dL_changes_766 : decode cL_changes 766 = .ok (.ifCond .eq 12, 3) := by decide +kernel
theorem dL_changes_769 : decode cL_changes 769 = .ok (.aload_n 0, 1) := by decide +kernel
theorem dL_changes_770 : decode cL_changes 770 = .ok (.invokestatic 88, 3) := by decide +kernel
theorem dL_changes_773 : decode cL_changes 773 = .ok (.lload_n 3, 1) := by decide +kernel
theorem dL_changes_774 : decode cL_changes 774 = .ok (.lcmp, 1) := by decide +kernel
theorem dL_changes_775 : decode cL_changes 775 = .ok (.ifCond .ne 53, 3) := by decide +kernel
theorem dL_changes_778 : decode cL_changes 778 = .ok (.aload_n 0, 1) := by decide +kernel
theorem dL_changes_779 : decode cL_changes 779 = .ok (.iload 10, 2) := by decide +kernel
theorem dL_changes_781 : decode cL_changes 781 = .ok (.iload 11, 2) := by decide +kernel
theorem dL_changes_783 : decode cL_changes 783 = .ok (.invokevirtual 34, 3) := by decide +kernel
theorem dL_changes_786 : decode cL_changes 786 = .ok (.ifCond .eq 42, 3) := by decide +kernel
theorem dL_changes_789 : decode cL_changes 789 = .ok (.aload_n 0, 1) := by decide +kernel
theorem dL_changes_790 : decode cL_changes 790 = .ok (.iload 11, 2) := by decide +kernel
theorem dL_changes_792 : decode cL_changes 792 = .ok (.iload 10, 2) := by decide +kernel
theorem dL_changes_794 : decode cL_changes 794 = .ok (.invokevirtual 34, 3) := by decide +kernel
theorem dL_changes_797 : decode cL_changes 797 = .ok (.ifCond .eq 31, 3) := by decide +kernel
theorem dL_changes_800 : decode cL_changes 800 = .ok (.aload_n 0, 1) := by decide +kernel
theorem dL_changes_801 : decode cL_changes 801 = .ok (.iload 10, 2) := by decide +kernel
theorem dL_changes_803 : decode cL_changes 803 = .ok (.iload 10, 2) := by decide +kernel
theorem dL_changes_805 : decode cL_changes 805 = .ok (.invokevirtual 34, 3) := by decide +kernel
theorem dL_changes_808 : decode cL_changes 808 = .ok (.ifCond .eq 20, 3) := by decide +kernel
theorem dL_changes_811 : decode cL_changes 811 = .ok (.iload 10, 2) := by decide +kernel
theorem dL_changes_813 : decode cL_changes 813 = .ok (.iload 11, 2) := by decide +kernel
theorem dL_changes_815 : decode cL_changes 815 = .ok (.if_icmp .ne 9, 3) := by decide +kernel
theorem dL_changes_818 : decode cL_changes 818 = .ok (.iload 12, 2) := by decide +kernel
theorem dL_changes_820 : decode cL_changes 820 = .ok (.iconst 1, 1) := by decide +kernel
theorem dL_changes_821 : decode cL_changes 821 = .ok (.if_icmp .ne 7, 3) := by decide +kernel
theorem dL_changes_824 : decode cL_changes 824 = .ok (.iconst 1, 1) := by decide +kernel
theorem dL_changes_825 : decode cL_changes 825 = .ok (.goto 4, 3) := by decide +kernel
theorem dL_changes_828 : decode cL_changes 828 = .ok (.iconst 0, 1) := by decide +kernel
theorem dL_changes_829 : decode cL_changes 829 = .ok (.ireturn, 1) := by decide +kernel
theorem dL_changes_830 : decode cL_changes 830 = .ok (.iload 9, 2) := by decide +kernel
theorem dL_changes_832 : decode cL_changes 832 = .ok (.bipush 15, 2) := by decide +kernel
theorem dL_changes_834 : decode cL_changes 834 = .ok (.if_icmp .ge 216, 3) := by decide +kernel
theorem dL_changes_837 : decode cL_changes 837 = .ok (.iload_n 2, 1) := by decide +kernel
theorem dL_changes_838 : decode cL_changes 838 = .ok (.ifCond .eq 17, 3) := by decide +kernel
theorem dL_changes_841 : decode cL_changes 841 = .ok (.iload_n 1, 1) := by decide +kernel
theorem dL_changes_842 : decode cL_changes 842 = .ok (.bipush 7, 2) := by decide +kernel
theorem dL_changes_844 : decode cL_changes 844 = .ok (.ishr, 1) := by decide +kernel
theorem dL_changes_845 : decode cL_changes 845 = .ok (.bipush 6, 2) := by decide +kernel
theorem dL_changes_847 : decode cL_changes 847 = .ok (.invokestatic 92, 3) := by decide +kernel
theorem dL_changes_850 : decode cL_changes 850 = .ok (.iconst 1, 1) := by decide +kernel
theorem dL_changes_851 : decode cL_changes 851 = .ok (.isub, 1) := by decide +kernel
theorem dL_changes_852 : decode cL_changes 852 = .ok (.goto 11, 3) := by decide +kernel
theorem dL_changes_855 : decode cL_changes 855 = .ok (.iload_n 1, 1) := by decide +kernel
theorem dL_changes_856 : decode cL_changes 856 = .ok (.bipush 7, 2) := by decide +kernel
theorem dL_changes_858 : decode cL_changes 858 = .ok (.ishr, 1) := by decide +kernel
theorem dL_changes_859 : decode cL_changes 859 = .ok (.iconst 3, 1) := by decide +kernel
theorem dL_changes_860 : decode cL_changes 860 = .ok (.invokestatic 92, 3) := by decide +kernel
theorem dL_changes_863 : decode cL_changes 863 = .ok (.istore 10, 2) := by decide +kernel
theorem dL_changes_865 : decode cL_changes 865 = .ok (.iload_n 2, 1) := by decide +kernel
theorem dL_changes_866 : decode cL_changes 866 = .ok (.ifCond .eq 17, 3) := by decide +kernel
theorem dL_changes_869 : decode cL_changes 869 = .ok (.iload_n 1, 1) := by decide +kernel
theorem dL_changes_870 : decode cL_changes 870 = .ok (.bipush 9, 2) := by decide +kernel
theorem dL_changes_872 : decode cL_changes 872 = .ok (.ishr, 1) := by decide +kernel
theorem dL_changes_873 : decode cL_changes 873 = .ok (.bipush 6, 2) := by decide +kernel
theorem dL_changes_875 : decode cL_changes 875 = .ok (.invokestatic 92, 3) := by decide +kernel
theorem dL_changes_878 : decode cL_changes 878 = .ok (.iconst 1, 1) := by decide +kernel
theorem dL_changes_879 : decode cL_changes 879 = .ok (.isub, 1) := by decide +kernel
theorem dL_changes_880 : decode cL_changes 880 = .ok (.goto 11, 3) := by decide +kernel
theorem dL_changes_883 : decode cL_changes 883 = .ok (.iload_n 1, 1) := by decide +kernel
theorem dL_changes_884 : decode cL_changes 884 = .ok (.bipush 9, 2) := by decide +kernel
theorem dL_changes_886 : decode cL_changes 886 = .ok (.ishr, 1) := by decide +kernel
theorem dL_changes_887 : decode cL_changes 887 = .ok (.iconst 3, 1) := by decide +kernel
theorem dL_changes_888 : decode cL_changes 888 = .ok (.invokestatic 92, 3) := by decide +kernel
theorem dL_changes_891 : decode cL_changes 891 = .ok (.istore 11, 2) := by decide +kernel
theorem dL_changes_893 : decode cL_changes 893 = .ok (.iload_n 2, 1) := by decide +kernel
theorem dL_changes_894 : decode cL_changes 894 = .ok (.ifCond .eq 17, 3) := by decide +kernel
theorem dL_changes_897 : decode cL_changes 897 = .ok (.iload_n 1, 1) := by decide +kernel
theorem dL_changes_898 : decode cL_changes 898 = .ok (.bipush 11, 2) := by decide +kernel
theorem dL_changes_900 : decode cL_changes 900 = .ok (.ishr, 1) := by decide +kernel
theorem dL_changes_901 : decode cL_changes 901 = .ok (.bipush 7, 2) := by decide +kernel
theorem dL_changes_903 : decode cL_changes 903 = .ok (.invokestatic 92, 3) := by decide +kernel
theorem dL_changes_906 : decode cL_changes 906 = .ok (.iconst 2, 1) := by decide +kernel
theorem dL_changes_907 : decode cL_changes 907 = .ok (.isub, 1) := by decide +kernel
theorem dL_changes_908 : decode cL_changes 908 = .ok (.goto 13, 3) := by decide +kernel
theorem dL_changes_911 : decode cL_changes 911 = .ok (.iload_n 1, 1) := by decide +kernel
theorem dL_changes_912 : decode cL_changes 912 = .ok (.bipush 11, 2) := by decide +kernel
theorem dL_changes_914 : decode cL_changes 914 = .ok (.ishr, 1) := by decide +kernel
theorem dL_changes_915 : decode cL_changes 915 = .ok (.iconst 5, 1) := by decide +kernel
theorem dL_changes_916 : decode cL_changes 916 = .ok (.invokestatic 92, 3) := by decide +kernel
theorem dL_changes_919 : decode cL_changes 919 = .ok (.iconst 1, 1) := by decide +kernel
theorem dL_changes_920 : decode cL_changes 920 = .ok (.isub, 1) := by decide +kernel
theorem dL_changes_921 : decode cL_changes 921 = .ok (.istore 12, 2) := by decide +kernel
theorem dL_changes_923 : decode cL_changes 923 = .ok (.aload_n 0, 1) := by decide +kernel
theorem dL_changes_924 : decode cL_changes 924 = .ok (.iconst 4, 1) := by decide +kernel
