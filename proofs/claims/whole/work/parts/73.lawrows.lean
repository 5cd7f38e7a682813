theorem d_law_723 : decode code 723 = .ok (.iload 6, 2) := by decide +kernel
theorem d_law_725 : decode code 725 = .ok (.i2l, 1) := by decide +kernel
theorem d_law_726 : decode code 726 = .ok (.lcmp, 1) := by decide +kernel
theorem d_law_727 : decode code 727 = .ok (.ifCond .eq 5, 3) := by decide +kernel
theorem d_law_730 : decode code 730 = .ok (.iconst 0, 1) := by decide +kernel
theorem d_law_731 : decode code 731 = .ok (.ireturn, 1) := by decide +kernel
theorem d_law_732 : decode code 732 = .ok (.goto 640, 3) := by decide +kernel
theorem d_law_735 : decode code 735 = .ok (.aload_n 1, 1) := by decide +kernel
theorem d_law_736 : decode code 736 = .ok (.invokevirtual 101, 3) := by decide +kernel
theorem d_law_739 : decode code 739 = .ok (.aload_n 2, 1) := by decide +kernel
theorem d_law_740 : decode code 740 = .ok (.invokevirtual 104, 3) := by decide +kernel
theorem d_law_743 : decode code 743 = .ok (.if_icmp .eq 629, 3) := by decide +kernel
theorem d_law_746 : decode code 746 = .ok (.iconst 0, 1) := by decide +kernel
theorem d_law_747 : decode code 747 = .ok (.ireturn, 1) := by decide +kernel
theorem d_law_748 : decode code 748 = .ok (.aload_n 1, 1) := by decide +kernel
theorem d_law_749 : decode code 749 = .ok (.aload_n 0, 1) := by decide +kernel
theorem d_law_750 : decode code 750 = .ok (.iload 4, 2) := by decide +kernel
theorem d_law_752 : decode code 752 = .ok (.iconst 1, 1) := by decide +kernel
theorem d_law_753 : decode code 753 = .ok (.iadd, 1) := by decide +kernel
theorem d_law_754 : decode code 754 = .ok (.iaload, 1) := by decide +kernel
theorem d_law_755 : decode code 755 = .ok (.aload_n 0, 1) := by decide +kernel
theorem d_law_756 : decode code 756 = .ok (.iload 4, 2) := by decide +kernel
theorem d_law_758 : decode code 758 = .ok (.iconst 2, 1) := by decide +kernel
theorem d_law_759 : decode code 759 = .ok (.iadd, 1) := by decide +kernel
theorem d_law_760 : decode code 760 = .ok (.iaload, 1) := by decide +kernel
theorem d_law_761 : decode code 761 = .ok (.aload_n 0, 1) := by decide +kernel
theorem d_law_762 : decode code 762 = .ok (.iload 4, 2) := by decide +kernel
theorem d_law_764 : decode code 764 = .ok (.iconst 3, 1) := by decide +kernel
theorem d_law_765 : decode code 765 = .ok (.iadd, 1) := by decide +kernel
theorem d_law_766 : decode code 766 = .ok (.iaload, 1) := by decide +kernel
theorem d_law_767 : decode code 767 = .ok (.aload_n 0, 1) := by decide +kernel
theorem d_law_768 : decode code 768 = .ok (.iload 4, 2) := by decide +kernel
theorem d_law_770 : decode code 770 = .ok (.iconst 4, 1) := by decide +kernel
theorem d_law_771 : decode code 771 = .ok (.iadd, 1) := by decide +kernel
theorem d_law_772 : decode code 772 = .ok (.iaload, 1) := by decide +kernel
theorem d_law_773 : decode code 773 = .ok (.aload_n 0, 1) := by decide +kernel
theorem d_law_774 : decode code 774 = .ok (.iload 4, 2) := by decide +kernel
theorem d_law_776 : decode code 776 = .ok (.iconst 5, 1) := by decide +kernel
theorem d_law_777 : decode code 777 = .ok (.iadd, 1) := by decide +kernel
theorem d_law_778 : decode code 778 = .ok (.iaload, 1) := by decide +kernel
theorem d_law_779 : decode code 779 = .ok (.aload_n 3, 1) := by decide +kernel
theorem d_law_780 : decode code 780 = .ok (.invokestatic 105, 3) := by decide +kernel
theorem d_law_783 : decode code 783 = .ok (.istore 5, 2) := by decide +kernel
theorem d_law_785 : decode code 785 = .ok (.aload_n 2, 1) := by decide +kernel
theorem d_law_786 : decode code 786 = .ok (.aload_n 0, 1) := by decide +kernel
theorem d_law_787 : decode code 787 = .ok (.iload 4, 2) := by decide +kernel
theorem d_law_789 : decode code 789 = .ok (.iconst 1, 1) := by decide +kernel
theorem d_law_790 : decode code 790 = .ok (.iadd, 1) := by decide +kernel
theorem d_law_791 : decode code 791 = .ok (.iaload, 1) := by decide +kernel
theorem d_law_792 : decode code 792 = .ok (.aload_n 0, 1) := by decide +kernel
theorem d_law_793 : decode code 793 = .ok (.iload 4, 2) := by decide +kernel
theorem d_law_795 : decode code 795 = .ok (.iconst 2, 1) := by decide +kernel
theorem d_law_796 : decode code 796 = .ok (.iadd, 1) := by decide +kernel
theorem d_law_797 : decode code 797 = .ok (.iaload, 1) := by decide +kernel
theorem d_law_798 : decode code 798 = .ok (.aload_n 0, 1) := by decide +kernel
theorem d_law_799 : decode code 799 = .ok (.iload 4, 2) := by decide +kernel
theorem d_law_801 : decode code 801 = .ok (.iconst 3, 1) := by decide +kernel
theorem d_law_802 : decode code 802 = .ok (.iadd, 1) := by decide +kernel
theorem d_law_803 : decode code 803 = .ok (.iaload, 1) := by decide +kernel
theorem d_law_804 : decode code 804 = .ok (.aload_n 0, 1) := by decide +kernel
theorem d_law_805 : decode code 805 = .ok (.iload 4, 2) := by decide +kernel
theorem d_law_807 : decode code 807 = .ok (.iconst 4, 1) := by decide +kernel
theorem d_law_808 : decode code 808 = .ok (.iadd, 1) := by decide +kernel
theorem d_law_809 : decode code 809 = .ok (.iaload, 1) := by decide +kernel
theorem d_law_810 : decode code 810 = .ok (.aload_n 0, 1) := by decide +kernel
theorem d_law_811 : decode code 811 = .ok (.iload 4, 2) := by decide +kernel
theorem d_law_813 : decode code 813 = .ok (.iconst 5, 1) := by decide +kernel
theorem d_law_814 : decode code 814 = .ok (.iadd, 1) := by decide +kernel
theorem d_law_815 : decode code 815 = .ok (.iaload, 1) := by decide +kernel
theorem d_law_816 : decode code 816 = .ok (.invokevirtual 107, 3) := by decide +kernel
theorem d_law_819 : decode code 819 = .ok (.istore 6, 2) := by decide +kernel
theorem d_law_821 : decode code 821 = .ok (.aload_n 2, 1) := by decide +kernel
theorem d_law_822 : decode code 822 = .ok (.invokevirtual 84, 3) := by decide +kernel
theorem d_law_825 : decode code 825 = .ok (.iload 5, 2) := by decide +kernel
theorem d_law_827 : decode code 827 = .ok (.if_icmp .eq 5, 3) := by decide +kernel
theorem d_law_830 : decode code 830 = .ok (.iconst 0, 1) := by decide +kernel
theorem d_law_831 : decode code 831 = .ok (.ireturn, 1) := by decide +kernel
theorem d_law_832 : decode code 832 = .ok (.iload 5, 2) := by decide +kernel
theorem d_law_834 : decode code 834 = .ok (.ifCond .ne 15, 3) := by decide +kernel
theorem d_law_837 : decode code 837 = .ok (.aload_n 3, 1) := by decide +kernel
theorem d_law_838 : decode code 838 = .ok (.iconst 0, 1) := by decide +kernel
theorem d_law_839 : decode code 839 = .ok (.laload, 1) := by decide +kernel
theorem d_law_840 : decode code 840 = .ok (.iload 6, 2) := by decide +kernel
theorem d_law_842 : decode code 842 = .ok (.i2l, 1) := by decide +kernel
theorem d_law_843 : decode code 843 = .ok (.lcmp, 1) := by decide +kernel
theorem d_law_844 : decode code 844 = .ok (.ifCond .eq 5, 3) := by decide +kernel
theorem d_law_847 : decode code 847 = .ok (.iconst 0, 1) := by decide +kernel
theorem d_law_848 : decode code 848 = .ok (.ireturn, 1) := by decide +kernel
theorem d_law_849 : decode code 849 = .ok (.goto 523, 3) := by decide +kernel
theorem d_law_852 : decode code 852 = .ok (.aload_n 1, 1) := by decide +kernel
theorem d_law_853 : decode code 853 = .ok (.aload_n 0, 1) := by decide +kernel
theorem d_law_854 : decode code 854 = .ok (.iload 4, 2) := by decide +kernel
theorem d_law_856 : decode code 856 = .ok (.iconst 1, 1) := by decide +kernel
theorem d_law_857 : decode code 857 = .ok (.iadd, 1) := by decide +kernel
theorem d_law_858 : decode code 858 = .ok (.iaload, 1) := by decide +kernel
theorem d_law_859 : decode code 859 = .ok (.aload_n 0, 1) := by decide +kernel
theorem d_law_860 : decode code 860 = .ok (.iload 4, 2) := by decide +kernel
theorem d_law_862 : decode code 862 = .ok (.iconst 2, 1) := by decide +kernel
theorem d_law_863 : decode code 863 = .ok (.iadd, 1) := by decide +kernel
theorem d_law_864 : decode code 864 = .ok (.iaload, 1) := by decide +kernel
theorem d_law_865 : decode code 865 = .ok (.aload_n 0, 1) := by decide +kernel
theorem d_law_866 : decode code 866 = .ok (.iload 4, 2) := by decide +kernel
theorem d_law_868 : decode code 868 = .ok (.iconst 3, 1) := by decide +kernel
theorem d_law_869 : decode code 869 = .ok (.iadd, 1) := by decide +kernel
theorem d_law_870 : decode code 870 = .ok (.iaload, 1) := by decide +kernel
theorem d_law_871 : decode code 871 = .ok (.aload_n 0, 1) := by decide +kernel
theorem d_law_872 : decode code 872 = .ok (.iload 4, 2) := by decide +kernel
theorem d_law_874 : decode code 874 = .ok (.iconst 4, 1) := by decide +kernel
theorem d_law_875 : decode code 875 = .ok (.iadd, 1) := by decide +kernel
theorem d_law_876 : decode code 876 = .ok (.iaload, 1) := by decide +kernel
theorem d_law_877 : decode code 877 = .ok (.aload_n 3, 1) := by decide +kernel
theorem d_law_878 : decode code 878 = .ok (.invokestatic 108, 3) := by decide +kernel
theorem d_law_881 : decode code 881 = .ok (.istore 5, 2) := by decide +kernel
theorem d_law_883 : decode code 883 = .ok (.aload_n 2, 1) := by decide +kernel
theorem d_law_884 : decode code 884 = .ok (.aload_n 0, 1) := by decide +kernel
theorem d_law_885 : decode code 885 = .ok (.iload 4, 2) := by decide +kernel
theorem d_law_887 : decode code 887 = .ok (.iconst 1, 1) := by decide +kernel
theorem d_law_888 : decode code 888 = .ok (.iadd, 1) := by decide +kernel
theorem d_law_889 : decode code 889 = .ok (.iaload, 1) := by decide +kernel
theorem d_law_890 : decode code 890 = .ok (.aload_n 0, 1) := by decide +kernel
theorem d_law_891 : decode code 891 = .ok (.iload 4, 2) := by decide +kernel
theorem d_law_893 : decode code 893 = .ok (.iconst 2, 1) := by decide +kernel
theorem d_law_894 : decode code 894 = .ok (.iadd, 1) := by decide +kernel
theorem d_law_895 : decode code 895 = .ok (.iaload, 1) := by decide +kernel
theorem d_law_896 : decode code 896 = .ok (.aload_n 0, 1) := by decide +kernel
theorem d_law_897 : decode code 897 = .ok (.iload 4, 2) := by decide +kernel
theorem d_law_899 : decode code 899 = .ok (.iconst 3, 1) := by decide +kernel
theorem d_law_900 : decode code 900 = .ok (.iadd, 1) := by decide +kernel
theorem d_law_901 : decode code 901 = .ok (.iaload, 1) := by decide +kernel
theorem d_law_902 : decode code 902 = .ok (.aload_n 0, 1) := by decide +kernel
theorem d_law_903 : decode code 903 = .ok (.iload 4, 2) := by decide +kernel
theorem d_law_905 : decode code 905 = .ok (.iconst 4, 1) := by decide +kernel
theorem d_law_906 : decode code 906 = .ok (.iadd, 1) := by decide +kernel
theorem d_law_907 : decode code 907 = .ok (.iaload, 1) := by decide +kernel
theorem d_law_908 : decode code 908 = .ok (.invokevirtual 110, 3) := by decide +kernel
theorem d_law_911 : decode code 911 = .ok (.istore 6, 2) := by decide +kernel
theorem d_law_913 : decode code 913 = .ok (.aload_n 2, 1) := by decide +kernel
theorem d_law_914 : decode code 914 = .ok (.invokevirtual 84, 3) := by decide +kernel
theorem d_law_917 : decode code 917 = .ok (.iload 5, 2) := by decide +kernel
theorem d_law_919 : decode code 919 = .ok (.if_icmp .eq 5, 3) := by decide +kernel
theorem d_law_922 : decode code 922 = .ok (.iconst 0, 1) := by decide +kernel
theorem d_law_923 : decode code 923 = .ok (.ireturn, 1) := by decide +kernel
theorem d_law_924 : decode code 924 = .ok (.iload 5, 2) := by decide +kernel
theorem d_law_926 : decode code 926 = .ok (.ifCond .ne 15, 3) := by decide +kernel
theorem d_law_929 : decode code 929 = .ok (.aload_n 3, 1) := by decide +kernel
theorem d_law_930 : decode code 930 = .ok (.iconst 0, 1) := by decide +kernel
theorem d_law_931 : decode code 931 = .ok (.laload, 1) := by decide +kernel
theorem d_law_932 : decode code 932 = .ok (.iload 6, 2) := by decide +kernel
theorem d_law_934 : decode code 934 = .ok (.i2l, 1) := by decide +kernel
theorem d_law_935 : decode code 935 = .ok (.lcmp, 1) := by decide +kernel
