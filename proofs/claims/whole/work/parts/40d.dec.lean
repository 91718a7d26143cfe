/-! Decoded instructions of the law. -/
theorem dL_law_667 : decode code 667 = .ok (.istore 5, 2) := by decide +kernel
theorem dL_law_669 : decode code 669 = .ok (.aload_n 2, 1) := by decide +kernel
theorem dL_law_670 : decode code 670 = .ok (.aload_n 0, 1) := by decide +kernel
theorem dL_law_671 : decode code 671 = .ok (.iload 4, 2) := by decide +kernel
theorem dL_law_673 : decode code 673 = .ok (.iconst 1, 1) := by decide +kernel
theorem dL_law_674 : decode code 674 = .ok (.iadd, 1) := by decide +kernel
theorem dL_law_675 : decode code 675 = .ok (.iaload, 1) := by decide +kernel
theorem dL_law_676 : decode code 676 = .ok (.aload_n 0, 1) := by decide +kernel
theorem dL_law_677 : decode code 677 = .ok (.iload 4, 2) := by decide +kernel
theorem dL_law_679 : decode code 679 = .ok (.iconst 2, 1) := by decide +kernel
theorem dL_law_680 : decode code 680 = .ok (.iadd, 1) := by decide +kernel
theorem dL_law_681 : decode code 681 = .ok (.iaload, 1) := by decide +kernel
theorem dL_law_682 : decode code 682 = .ok (.invokevirtual 95, 3) := by decide +kernel
theorem dL_law_685 : decode code 685 = .ok (.istore 6, 2) := by decide +kernel
theorem dL_law_687 : decode code 687 = .ok (.aload_n 2, 1) := by decide +kernel
theorem dL_law_688 : decode code 688 = .ok (.invokevirtual 63, 3) := by decide +kernel
theorem dL_law_691 : decode code 691 = .ok (.iload 5, 2) := by decide +kernel
theorem dL_law_693 : decode code 693 = .ok (.if_icmp .eq 5, 3) := by decide +kernel
theorem dL_law_696 : decode code 696 = .ok (.iconst 0, 1) := by decide +kernel
theorem dL_law_697 : decode code 697 = .ok (.ireturn, 1) := by decide +kernel
theorem dL_law_698 : decode code 698 = .ok (.iload 5, 2) := by decide +kernel
theorem dL_law_700 : decode code 700 = .ok (.ifCond .ne 15, 3) := by decide +kernel
theorem dL_law_703 : decode code 703 = .ok (.aload_n 3, 1) := by decide +kernel
theorem dL_law_704 : decode code 704 = .ok (.iconst 0, 1) := by decide +kernel
theorem dL_law_705 : decode code 705 = .ok (.laload, 1) := by decide +kernel
theorem dL_law_706 : decode code 706 = .ok (.iload 6, 2) := by decide +kernel
theorem dL_law_708 : decode code 708 = .ok (.i2l, 1) := by decide +kernel
theorem dL_law_709 : decode code 709 = .ok (.lcmp, 1) := by decide +kernel
theorem dL_law_710 : decode code 710 = .ok (.ifCond .eq 5, 3) := by decide +kernel
theorem dL_law_713 : decode code 713 = .ok (.iconst 0, 1) := by decide +kernel
theorem dL_law_714 : decode code 714 = .ok (.ireturn, 1) := by decide +kernel
theorem dL_law_715 : decode code 715 = .ok (.goto 155, 3) := by decide +kernel
theorem dL_law_718 : decode code 718 = .ok (.aload_n 1, 1) := by decide +kernel
theorem dL_law_719 : decode code 719 = .ok (.aload_n 0, 1) := by decide +kernel
theorem dL_law_720 : decode code 720 = .ok (.iload 4, 2) := by decide +kernel
theorem dL_law_722 : decode code 722 = .ok (.iconst 1, 1) := by decide +kernel
theorem dL_law_723 : decode code 723 = .ok (.iadd, 1) := by decide +kernel
theorem dL_law_724 : decode code 724 = .ok (.iaload, 1) := by decide +kernel
theorem dL_law_725 : decode code 725 = .ok (.aload_n 0, 1) := by decide +kernel
theorem dL_law_726 : decode code 726 = .ok (.iload 4, 2) := by decide +kernel
theorem dL_law_728 : decode code 728 = .ok (.iconst 2, 1) := by decide +kernel
theorem dL_law_729 : decode code 729 = .ok (.iadd, 1) := by decide +kernel
theorem dL_law_730 : decode code 730 = .ok (.iaload, 1) := by decide +kernel
theorem dL_law_731 : decode code 731 = .ok (.ifCond .eq 7, 3) := by decide +kernel
theorem dL_law_734 : decode code 734 = .ok (.iconst 1, 1) := by decide +kernel
theorem dL_law_735 : decode code 735 = .ok (.goto 4, 3) := by decide +kernel
theorem dL_law_738 : decode code 738 = .ok (.iconst 0, 1) := by decide +kernel
theorem dL_law_739 : decode code 739 = .ok (.aload_n 3, 1) := by decide +kernel
theorem dL_law_740 : decode code 740 = .ok (.invokestatic 96, 3) := by decide +kernel
theorem dL_law_743 : decode code 743 = .ok (.istore 5, 2) := by decide +kernel
theorem dL_law_745 : decode code 745 = .ok (.aload_n 2, 1) := by decide +kernel
theorem dL_law_746 : decode code 746 = .ok (.aload_n 0, 1) := by decide +kernel
theorem dL_law_747 : decode code 747 = .ok (.iload 4, 2) := by decide +kernel
theorem dL_law_749 : decode code 749 = .ok (.iconst 1, 1) := by decide +kernel
theorem dL_law_750 : decode code 750 = .ok (.iadd, 1) := by decide +kernel
theorem dL_law_751 : decode code 751 = .ok (.iaload, 1) := by decide +kernel
theorem dL_law_752 : decode code 752 = .ok (.aload_n 0, 1) := by decide +kernel
theorem dL_law_753 : decode code 753 = .ok (.iload 4, 2) := by decide +kernel
theorem dL_law_755 : decode code 755 = .ok (.iconst 2, 1) := by decide +kernel
theorem dL_law_756 : decode code 756 = .ok (.iadd, 1) := by decide +kernel
theorem dL_law_757 : decode code 757 = .ok (.iaload, 1) := by decide +kernel
theorem dL_law_758 : decode code 758 = .ok (.ifCond .eq 7, 3) := by decide +kernel
theorem dL_law_761 : decode code 761 = .ok (.iconst 1, 1) := by decide +kernel
theorem dL_law_762 : decode code 762 = .ok (.goto 4, 3) := by decide +kernel
theorem dL_law_765 : decode code 765 = .ok (.iconst 0, 1) := by decide +kernel
theorem dL_law_766 : decode code 766 = .ok (.invokevirtual 99, 3) := by decide +kernel
theorem dL_law_769 : decode code 769 = .ok (.istore 6, 2) := by decide +kernel
theorem dL_law_771 : decode code 771 = .ok (.aload_n 2, 1) := by decide +kernel
theorem dL_law_772 : decode code 772 = .ok (.invokevirtual 63, 3) := by decide +kernel
theorem dL_law_775 : decode code 775 = .ok (.iload 5, 2) := by decide +kernel
theorem dL_law_777 : decode code 777 = .ok (.if_icmp .eq 5, 3) := by decide +kernel
theorem dL_law_780 : decode code 780 = .ok (.iconst 0, 1) := by decide +kernel
theorem dL_law_781 : decode code 781 = .ok (.ireturn, 1) := by decide +kernel
theorem dL_law_782 : decode code 782 = .ok (.iload 5, 2) := by decide +kernel
theorem dL_law_784 : decode code 784 = .ok (.ifCond .ne 15, 3) := by decide +kernel
theorem dL_law_787 : decode code 787 = .ok (.aload_n 3, 1) := by decide +kernel
theorem dL_law_788 : decode code 788 = .ok (.iconst 0, 1) := by decide +kernel
theorem dL_law_789 : decode code 789 = .ok (.laload, 1) := by decide +kernel
theorem dL_law_790 : decode code 790 = .ok (.iload 6, 2) := by decide +kernel
theorem dL_law_792 : decode code 792 = .ok (.i2l, 1) := by decide +kernel
theorem dL_law_793 : decode code 793 = .ok (.lcmp, 1) := by decide +kernel
theorem dL_law_794 : decode code 794 = .ok (.ifCond .eq 5, 3) := by decide +kernel
theorem dL_law_797 : decode code 797 = .ok (.iconst 0, 1) := by decide +kernel
theorem dL_law_798 : decode code 798 = .ok (.ireturn, 1) := by decide +kernel
theorem dL_law_799 : decode code 799 = .ok (.goto 71, 3) := by decide +kernel
theorem dL_law_802 : decode code 802 = .ok (.aload_n 1, 1) := by decide +kernel
theorem dL_law_803 : decode code 803 = .ok (.aload_n 0, 1) := by decide +kernel
theorem dL_law_804 : decode code 804 = .ok (.iload 4, 2) := by decide +kernel
theorem dL_law_806 : decode code 806 = .ok (.iconst 1, 1) := by decide +kernel
theorem dL_law_807 : decode code 807 = .ok (.iadd, 1) := by decide +kernel
theorem dL_law_808 : decode code 808 = .ok (.iaload, 1) := by decide +kernel
theorem dL_law_809 : decode code 809 = .ok (.aload_n 0, 1) := by decide +kernel
theorem dL_law_810 : decode code 810 = .ok (.iload 4, 2) := by decide +kernel
theorem dL_law_812 : decode code 812 = .ok (.iconst 2, 1) := by decide +kernel
theorem dL_law_813 : decode code 813 = .ok (.iadd, 1) := by decide +kernel
theorem dL_law_814 : decode code 814 = .ok (.iaload, 1) := by decide +kernel
theorem dL_law_815 : decode code 815 = .ok (.aload_n 3, 1) := by decide +kernel
theorem dL_law_816 : decode code 816 = .ok (.invokestatic 100, 3) := by decide +kernel
theorem dL_law_819 : decode code 819 = .ok (.istore 5, 2) := by decide +kernel
theorem dL_law_821 : decode code 821 = .ok (.aload_n 2, 1) := by decide +kernel
theorem dL_law_822 : decode code 822 = .ok (.aload_n 0, 1) := by decide +kernel
theorem dL_law_823 : decode code 823 = .ok (.iload 4, 2) := by decide +kernel
theorem dL_law_825 : decode code 825 = .ok (.iconst 1, 1) := by decide +kernel
theorem dL_law_826 : decode code 826 = .ok (.iadd, 1) := by decide +kernel
theorem dL_law_827 : decode code 827 = .ok (.iaload, 1) := by decide +kernel
theorem dL_law_828 : decode code 828 = .ok (.aload_n 0, 1) := by decide +kernel
theorem dL_law_829 : decode code 829 = .ok (.iload 4, 2) := by decide +kernel
theorem dL_law_831 : decode code 831 = .ok (.iconst 2, 1) := by decide +kernel
theorem dL_law_832 : decode code 832 = .ok (.iadd, 1) := by decide +kernel
theorem dL_law_833 : decode code 833 = .ok (.iaload, 1) := by decide +kernel
theorem dL_law_834 : decode code 834 = .ok (.invokevirtual 102, 3) := by decide +kernel
theorem dL_law_837 : decode code 837 = .ok (.istore 6, 2) := by decide +kernel
theorem dL_law_839 : decode code 839 = .ok (.aload_n 2, 1) := by decide +kernel
theorem dL_law_840 : decode code 840 = .ok (.invokevirtual 63, 3) := by decide +kernel
theorem dL_law_843 : decode code 843 = .ok (.iload 5, 2) := by decide +kernel
theorem dL_law_845 : decode code 845 = .ok (.if_icmp .eq 5, 3) := by decide +kernel
theorem dL_law_848 : decode code 848 = .ok (.iconst 0, 1) := by decide +kernel
theorem dL_law_849 : decode code 849 = .ok (.ireturn, 1) := by decide +kernel
theorem dL_law_850 : decode code 850 = .ok (.iload 5, 2) := by decide +kernel
theorem dL_law_852 : decode code 852 = .ok (.ifCond .ne 15, 3) := by decide +kernel
theorem dL_law_855 : decode code 855 = .ok (.aload_n 3, 1) := by decide +kernel
theorem dL_law_856 : decode code 856 = .ok (.iconst 0, 1) := by decide +kernel
theorem dL_law_857 : decode code 857 = .ok (.laload, 1) := by decide +kernel
theorem dL_law_858 : decode code 858 = .ok (.iload 6, 2) := by decide +kernel
theorem dL_law_860 : decode code 860 = .ok (.i2l, 1) := by decide +kernel
theorem dL_law_861 : decode code 861 = .ok (.lcmp, 1) := by decide +kernel
theorem dL_law_862 : decode code 862 = .ok (.ifCond .eq 5, 3) := by decide +kernel
theorem dL_law_865 : decode code 865 = .ok (.iconst 0, 1) := by decide +kernel
theorem dL_law_866 : decode code 866 = .ok (.ireturn, 1) := by decide +kernel
theorem dL_law_867 : decode code 867 = .ok (.goto 3, 3) := by decide +kernel
theorem dL_law_870 : decode code 870 = .ok (.iinc 4 7, 3) := by decide +kernel
theorem dL_law_873 : decode code 873 = .ok (.goto (-850), 3) := by decide +kernel
theorem dL_law_876 : decode code 876 = .ok (.iconst 1, 1) := by decide +kernel
theorem dL_law_877 : decode code 877 = .ok (.ireturn, 1) := by decide +kernel
